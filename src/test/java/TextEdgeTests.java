/** The texts of the terms, and the promises 11 to 16: each sentence that names an edge has a test of its own. */
public final class TextEdgeTests {
    private static final int INVALID = LeanSticks.INVALID_ARGUMENT;
    private static final int NOT_POSSIBLE = LeanSticks.NOT_POSSIBLE;
    private static final int LIMIT = LeanSticks.LIMIT_REACHED;
    private static final int NOT_FOUND = LeanSticks.NOT_FOUND;
    private static final int MIN = Integer.MIN_VALUE;
    private static final int MAX = Integer.MAX_VALUE;
    private static final int PIECE = 0;
    private static final int PATTERN = 1;

    public static void main(String[] args) {
        Checks checks = new Checks();
        append(checks);
        clear(checks);
        faultArgument(checks);
        faultOfStrokes(checks);
        faultOfRepeats(checks);
        faultOfLongPads(checks);
        faultOfPatterns(checks);
        read(checks);
        readRefused(checks);
        why(checks);
        sign(checks);
        checks.end();
    }

    private static void append(Checks checks) {
        checks.test("promise 11: to the empty pad", c -> c.due("append('R')", new LeanSticks().append('R'), 1));
        checks.test("promise 11: code 33, the least", c -> c.due("append(33)", new LeanSticks().append(33), 1));
        checks.test("promise 11: code 126, the greatest", c -> c.due("append(126)", new LeanSticks().append(126), 1));
        checks.test("promise 11: the 60th character", c -> {
            LeanSticks x = new LeanSticks();
            Looks.type(x, "R".repeat(59));
            c.due("append('R')", x.append('R'), 60);
            c.due("count(14)", x.count(14), 60);
        });
        checks.test("promise 11: each code stands as it was appended", c -> {
            for (int code = 33; code <= 126; code++) {
                LeanSticks x = new LeanSticks();
                c.due("append(" + code + ")", x.append(code), 1);
                c.due("fault(1) of " + code, x.fault(PATTERN), "RLx.".indexOf(code) >= 0 ? NOT_FOUND : 0);
                int due = "RLx.".indexOf(code) >= 0 ? NOT_FOUND : ">fd23456789".indexOf(code) >= 0 ? 1 : 0;
                c.due("fault(0) of " + code, x.fault(PIECE), due);
            }
        });
        checks.test("promise 11: code too small", c -> {
            for (int code : new int[] {32, 31, 10, 0, -1, MIN}) {
                c.keeps(Samples::some, "append(" + code + ")", x -> x.append(code), INVALID);
            }
        });
        checks.test("promise 11: code too large", c -> {
            for (int code : new int[] {127, 128, 255, 'R' + 256, 'R' + 65536, MAX}) {
                c.keeps(Samples::some, "append(" + code + ")", x -> x.append(code), INVALID);
            }
        });
        checks.test("promise 11: LIMIT_REACHED if it has 60 characters",
                c -> c.keeps(Samples::fullPad, "append('R')", x -> x.append('R'), LIMIT));
        checks.test("promise 11: INVALID_ARGUMENT rather than LIMIT_REACHED", c -> {
            c.keeps(Samples::fullPad, "append(32)", x -> x.append(32), INVALID);
            c.keeps(Samples::fullPad, "append(127)", x -> x.append(127), INVALID);
        });
    }

    private static void clear(Checks checks) {
        checks.test("promise 12: the empty pad", c -> {
            LeanSticks x = new LeanSticks();
            c.due("clear()", x.clear(), 0);
            c.due("count(14)", x.count(14), 0);
        });
        checks.test("promise 12: the full pad has room again", c -> {
            LeanSticks x = Samples.fullPad();
            c.due("clear()", x.clear(), 60);
            c.due("count(14)", x.count(14), 0);
            c.due("append('R')", x.append('R'), 1);
            c.due("read()", x.read(), 1);
            c.due("the text", Looks.text(x), "R");
        });
        checks.test("promise 12: twice", c -> {
            LeanSticks x = Samples.some();
            c.due("clear()", x.clear(), Samples.PAD.length());
            c.due("clear() again", x.clear(), 0);
        });
        checks.test("promise 12: all but the pad stays", c -> {
            LeanSticks x = Samples.some();
            x.clear();
            for (int place = 0; place < Samples.PAD.length(); place++) {
                x.append(Samples.PAD.charAt(place));
            }
            c.due("everything", Looks.everything(x), Looks.everything(Samples.some()));
        });
    }

    private static void faults(Checks c, int way, String pad, int want) {
        LeanSticks x = new LeanSticks();
        Looks.type(x, pad);
        c.due("fault(" + way + ") of '" + pad + "'", x.fault(way), want);
    }

    private static void right(Checks c, String... pads) {
        for (String pad : pads) {
            faults(c, PIECE, pad, NOT_FOUND);
        }
    }

    /** The last character of each is wrong, and none before it. */
    private static void wrongAtLast(Checks c, String... pads) {
        for (String pad : pads) {
            faults(c, PIECE, pad, pad.length() - 1);
            faults(c, PIECE, pad + "R", pad.length() - 1);
        }
    }

    private static void notComplete(Checks c, String... pads) {
        for (String pad : pads) {
            faults(c, PIECE, pad, pad.length());
        }
    }

    private static void faultArgument(Checks checks) {
        checks.test("promise 13: way too small", c -> {
            c.keeps(Samples::some, "fault(-1)", x -> x.fault(-1), INVALID);
            c.keeps(Samples::some, "fault(MIN)", x -> x.fault(MIN), INVALID);
        });
        checks.test("promise 13: way too large", c -> {
            c.keeps(Samples::some, "fault(2)", x -> x.fault(2), INVALID);
            c.keeps(Samples::some, "fault(MAX)", x -> x.fault(MAX), INVALID);
        });
        checks.test("promise 13: a look changes nothing", c -> {
            c.keeps(Samples::some, "fault(0)", x -> x.fault(PIECE), NOT_FOUND);
            c.keeps(Samples::some, "fault(1)", x -> x.fault(PATTERN), 1);
            c.keeps(Samples::fullPad, "fault(0) of 60", x -> x.fault(PIECE), NOT_FOUND);
        });
        checks.test("promise 13: the empty pad is not complete, as a piece", c -> notComplete(c, ""));
    }

    private static void faultOfStrokes(Checks checks) {
        checks.test("texts, a piece: one item", c -> right(c, ".", "R", "L", "x"));
        checks.test("texts, a piece: perhaps an accent", c -> right(c, ">R", ">L", ">x"));
        checks.test("texts, a piece: perhaps a flam or a drag",
                c -> right(c, "fR", "fL", "fx", "dR", "dL", "dx", ">fR", ">dx"));
        checks.test("texts, a piece: perhaps a double", c -> right(c, "R*", "L*", "x*", ">R*", ">x*"));
        checks.test("texts, a piece: a double without flam and drag only",
                c -> wrongAtLast(c, "fR*", "dL*", ">fx*", ">dR*", "RfL*"));
        checks.test("texts, a piece: one double a stroke", c -> wrongAtLast(c, "R**", ">x**", "2(R**"));
        checks.test("texts, a piece: a double belongs to a stroke", c -> wrongAtLast(c, "*", ".*", "2(*", "2(R)*"));
        checks.test("texts, a piece: an accent belongs to a stroke",
                c -> wrongAtLast(c, ">.", ">>", ">2", ">(", ">*", "2(>)"));
        checks.test("texts, a piece: a flam or a drag belongs to a stroke",
                c -> wrongAtLast(c, "f.", "d.", "f>", "d>", "ff", "fd", "df", "dd", "f2", "d(", "f*", "2(d)", ">f.", ">d>"));
        checks.test("texts, a piece: the accent, the flam or the drag are not complete",
                c -> notComplete(c, ">", "f", "d", ">f", ">d", "R>", "R*f", ".>d"));
        checks.test("texts, a piece: items one behind the other", c -> right(c, "RL", "R*L*", ".R.", "fR>dL", "R*.", "x>x"));
        checks.test("texts, a piece: letters are large or small as told",
                c -> wrongAtLast(c, "r", "l", "X", "F", "D", "RX", "fr", "dX"));
    }

    private static void faultOfRepeats(Checks checks) {
        checks.test("texts, a piece: a digit 2, the least", c -> right(c, "2(R)"));
        checks.test("texts, a piece: a digit 9, the greatest", c -> right(c, "9(R)"));
        checks.test("texts, a piece: digits too small", c -> wrongAtLast(c, "1", "0", "R1", "2(0", "R*1"));
        checks.test("texts, a piece: the signs beside the digits", c -> wrongAtLast(c, "/", ":", "R/", "R:"));
        checks.test("texts, a piece: one digit", c -> wrongAtLast(c, "22", "99", "R29"));
        checks.test("texts, a piece: a repeat without items", c -> wrongAtLast(c, "2()", "2(3()", "R9()"));
        checks.test("texts, a piece: an opening belongs to a digit", c -> wrongAtLast(c, "(", "R(", "2((", "2(R(", "R*("));
        checks.test("texts, a piece: a digit without an opening", c -> wrongAtLast(c, "2R", "2.", "2)", "2>", "2*", "2f"));
        checks.test("texts, a piece: a closing without an opening", c -> wrongAtLast(c, ")", "R)", "2(R))", "R*)", ".)"));
        checks.test("texts, a piece: repeats are not complete",
                c -> notComplete(c, "2", "2(", "2(R", "2(R*", "2(3", "2(3(R)", "R2(.", "9(>"));
        checks.test("texts, a piece: repeats within repeats", c -> right(c, "2(3(R))", "2(R3(L)x)", "2(2(R)2(L))", "2(2(2(.)))"));
        checks.test("texts, a piece: repeats one behind the other, and items behind them", c -> right(c, "2(R)3(L)", "2(R)x*"));
        checks.test("texts, a piece: a double ahead of a closing", c -> right(c, "2(R*)", "2(3(x*))"));
    }

    private static void faultOfLongPads(Checks checks) {
        checks.test("texts, the fault: the first of several", c -> {
            faults(c, PIECE, "R)q(", 1);
            faults(c, PIECE, "fR*R*)", 2);
            faults(c, PATTERN, "Rq*", 1);
        });
        checks.test("texts, the fault: of the 60th character", c -> {
            faults(c, PIECE, "R".repeat(59) + ")", 59);
            faults(c, PATTERN, "R".repeat(59) + ")", 59);
        });
        checks.test("texts, the fault: none in 60 characters", c -> {
            faults(c, PIECE, "R".repeat(60), NOT_FOUND);
            faults(c, PIECE, "2(".repeat(19) + "RRR" + ")".repeat(19), NOT_FOUND);
            faults(c, PATTERN, "x".repeat(60), NOT_FOUND);
        });
        checks.test("texts, the fault: a pad of any length, so 60 openings and digits are not wrong",
                c -> notComplete(c, "2(".repeat(30), "2(".repeat(29) + "R2", "2(".repeat(29) + "fR"));
        checks.test("texts, the fault: 60 characters that are not complete",
                c -> notComplete(c, "R".repeat(59) + ">", "R".repeat(59) + "f", "R".repeat(59) + "9"));
        checks.test("texts, the fault: more steps than 32 are no fault",
                c -> right(c, "R".repeat(33), "9(9(9(9(R))))"));
    }

    private static void faultOfPatterns(Checks checks) {
        checks.test("texts, a pattern: one of each", c -> {
            for (String pad : new String[] {"R", "L", "x", "."}) {
                faults(c, PATTERN, pad, NOT_FOUND);
            }
        });
        checks.test("texts, a pattern: the empty pad is not complete", c -> faults(c, PATTERN, "", 0));
        checks.test("texts, a pattern: what is right in a piece only", c -> {
            for (String pad : new String[] {">R", "fR", "dR", "2(R)"}) {
                faults(c, PATTERN, pad, 0);
            }
            faults(c, PATTERN, "R*", 1);
            faults(c, PATTERN, "RL2(R)", 2);
        });
        checks.test("texts, a pattern: what is wrong in a piece, too", c -> {
            faults(c, PATTERN, "r", 0);
            faults(c, PATTERN, "RX", 1);
            faults(c, PATTERN, "R)", 1);
        });
    }

    private static void reads(Checks c, String pad, int steps, String want) {
        LeanSticks x = Looks.of("LLL", 3);
        c.due("read() of '" + pad + "'", Looks.read(x, pad), steps);
        c.due("the text", Looks.text(x), want);
        c.due("a change", x.count(15), 3);
    }

    private static void read(Checks checks) {
        checks.test("promise 14: one step", c -> reads(c, ".", 1, "."));
        checks.test("promise 14: in place of a longer piece", c -> reads(c, "R>x", 2, "R>x"));
        checks.test("promise 14: in place of a shorter piece", c -> reads(c, "R>xdLL", 4, "R>xdLL"));
        checks.test("promise 14: 32 steps", c -> {
            reads(c, "R".repeat(32), 32, "R".repeat(32));
            reads(c, "4(8(L))", 32, "L".repeat(32));
            reads(c, "2(2(2(2(2(x*)))))", 32, "x*".repeat(32));
            reads(c, "9(.)9(R)9(.)5(L)", 32, ".........RRRRRRRRR.........LLLLL");
        });
        checks.test("promise 14: a pad of 60 characters", c -> reads(c, ">dR".repeat(20), 20, ">dR".repeat(20)));
        checks.test("promise 14: a repeat 2 times, the fewest", c -> reads(c, "2(R.)", 4, "R.R."));
        checks.test("promise 14: a repeat 9 times, the most", c -> reads(c, "9(R.)", 18, "R.".repeat(9)));
        checks.test("promise 14: an item behind a repeat is not repeated", c -> reads(c, "2(R)L", 3, "RRL"));
        checks.test("promise 14: repeats in repeats", c -> {
            reads(c, "2(R2(L)x)", 8, "RLLxRLLx");
            reads(c, "2(2(R)2(L))", 8, "RRLLRRLL");
            reads(c, "2(3(2(.)L))", 18, "..L".repeat(6));
        });
        checks.test("promise 14: an accent and an ornament are of one stroke only",
                c -> reads(c, ">fRLR*LdR>LR", 7, ">fRLR*LdR>LR"));
        checks.test("promise 14: a double is of the last stroke of a repeat only",
                c -> reads(c, "2(RL*)R", 5, "RL*RL*R"));
        checks.test("promise 14: empties the pad", c -> {
            LeanSticks x = Samples.some();
            c.due("read()", x.read(), 2);
            c.due("count(14)", x.count(14), 0);
            c.due("fault(0)", x.fault(PIECE), 0);
        });
        checks.test("promise 14: QUICK and the snapshot stay", c -> {
            LeanSticks x = Samples.some();
            x.set(3);
            x.read();
            c.due("count(11)", x.count(11), 3);
            c.due("restore()", x.restore(), 2);
            c.due("the text", Looks.text(x), "R>x");
        });
    }

    private static LeanSticks typed(String pad) {
        LeanSticks x = Samples.some();
        Looks.type(x, pad);
        return x;
    }

    /** The sample's latest read was refused for a fault, so only why() may tell another reason. */
    private static void readRefuses(Checks c, String pad, int want, int why) {
        LeanSticks x = typed(pad);
        c.due("read() of '" + pad + "'", x.read(), want);
        c.due("why()", x.why(), why);
        String due = Looks.everything(typed(pad)).replaceFirst("why 1", "why " + why);
        c.due("everything after read() of '" + pad + "'", Looks.everything(x), due);
    }

    private static void readRefused(Checks checks) {
        checks.test("promise 14: NOT_POSSIBLE of the empty pad", c -> readRefuses(c, "", NOT_POSSIBLE, 1));
        checks.test("promise 14: NOT_POSSIBLE of a wrong character", c -> {
            readRefuses(c, "R)", NOT_POSSIBLE, 1);
            readRefuses(c, "fR*", NOT_POSSIBLE, 1);
            readRefuses(c, "1(R)", NOT_POSSIBLE, 1);
        });
        checks.test("promise 14: NOT_POSSIBLE of a pad that is not complete", c -> {
            readRefuses(c, "2(R", NOT_POSSIBLE, 1);
            readRefuses(c, "R>", NOT_POSSIBLE, 1);
            readRefuses(c, "2(".repeat(30), NOT_POSSIBLE, 1);
        });
        checks.test("promise 14: LIMIT_REACHED of 33 steps", c -> {
            readRefuses(c, "R".repeat(33), LIMIT, 2);
            readRefuses(c, "4(8(R))L", LIMIT, 2);
            readRefuses(c, "L4(8(R))", LIMIT, 2);
            readRefuses(c, "3(9(R)..)", LIMIT, 2);
            readRefuses(c, "4(8(.)).", LIMIT, 2);
        });
        checks.test("promise 14: LIMIT_REACHED of far more steps", c -> {
            readRefuses(c, "R".repeat(60), LIMIT, 2);
            readRefuses(c, "9(".repeat(19) + "R*." + ")".repeat(19), LIMIT, 2);
            readRefuses(c, "2(".repeat(19) + "R" + ")".repeat(19), LIMIT, 2);
            readRefuses(c, "8(".repeat(19) + ".." + ")".repeat(19), LIMIT, 2);
        });
        checks.test("promise 14: NOT_POSSIBLE rather than LIMIT_REACHED", c -> {
            readRefuses(c, "R".repeat(40) + "*" + "*", NOT_POSSIBLE, 1);
            readRefuses(c, "R".repeat(40) + "2(R", NOT_POSSIBLE, 1);
            readRefuses(c, "9(9(9(R)))f", NOT_POSSIBLE, 1);
        });
    }

    private static void why(Checks checks) {
        checks.test("promise 15: 0 if there was no read", c -> {
            LeanSticks x = new LeanSticks();
            x.append(')');
            x.fault(PIECE);
            x.stroke(9, 9, true, 9);
            c.due("why()", x.why(), 0);
        });
        checks.test("promise 15: 0 if it was not refused", c -> {
            LeanSticks x = Looks.of("R");
            c.due("why()", x.why(), 0);
        });
        checks.test("promise 15: 1 if the pad had a fault", c -> {
            LeanSticks x = new LeanSticks();
            x.read();
            c.due("why() of the empty pad", x.why(), 1);
            Looks.read(x, "R)");
            c.due("why() of a wrong character", x.why(), 1);
        });
        checks.test("promise 15: 2 if there were too many steps", c -> {
            LeanSticks x = new LeanSticks();
            Looks.read(x, "R".repeat(33));
            c.due("why()", x.why(), 2);
        });
        checks.test("promise 15: 1 rather than 2", c -> {
            LeanSticks x = new LeanSticks();
            Looks.read(x, "R".repeat(33) + ")");
            c.due("why()", x.why(), 1);
        });
        checks.test("promise 15: the latest call", c -> {
            LeanSticks x = new LeanSticks();
            Looks.read(x, "R".repeat(33));
            Looks.read(x, ")");
            c.due("why() of a fault behind too many", x.why(), 1);
            Looks.read(x, "R".repeat(33));
            c.due("why() of too many behind a fault", x.why(), 2);
            Looks.read(x, "R");
            c.due("why() of a read behind both", x.why(), 0);
        });
        checks.test("promise 15: other calls change nothing in it", c -> {
            LeanSticks x = new LeanSticks();
            Looks.read(x, "R".repeat(33));
            x.clear();
            x.append('R');
            x.stroke(0, 0, false, 0);
            x.set(0);
            x.save();
            x.restore();
            x.undo();
            x.decide(true);
            x.patterns();
            c.due("why()", x.why(), 2);
        });
        checks.test("promise 15: a look changes nothing", c -> c.keeps(Samples::some, "why()", LeanSticks::why, 1));
    }

    private static void sign(Checks checks) {
        checks.test("promise 16: of a piece without steps", c -> {
            c.keeps(Samples::empty, "sign(0)", x -> x.sign(0), NOT_FOUND);
            c.keeps(Samples::empty, "sign(MAX)", x -> x.sign(MAX), NOT_FOUND);
        });
        checks.test("promise 16: place 0, the least", c -> c.keeps(Samples::some, "sign(0)", x -> x.sign(0), '>'));
        checks.test("promise 16: the last place",
                c -> c.keeps(Samples::some, "sign(10)", x -> x.sign(Samples.SOME.length() - 1), 'R'));
        checks.test("promise 16: NOT_FOUND if the text is not so long", c -> {
            c.keeps(Samples::some, "sign(11)", x -> x.sign(Samples.SOME.length()), NOT_FOUND);
            c.keeps(Samples::some, "sign(MAX)", x -> x.sign(MAX), NOT_FOUND);
        });
        checks.test("promise 16: place too small", c -> {
            c.keeps(Samples::some, "sign(-1)", x -> x.sign(-1), INVALID);
            c.keeps(Samples::some, "sign(MIN)", x -> x.sign(MIN), INVALID);
        });
        checks.test("promise 16: INVALID_ARGUMENT rather than NOT_FOUND",
                c -> c.keeps(Samples::empty, "sign(-1)", x -> x.sign(-1), INVALID));
        checks.test("promise 16: the longest text", c -> {
            LeanSticks x = Looks.of("4(8(>fL))");
            c.due("sign(93)", x.sign(93), '>');
            c.due("sign(94)", x.sign(94), 'f');
            c.due("sign(95)", x.sign(95), 'L');
            c.due("sign(96)", x.sign(96), NOT_FOUND);
        });
        checks.test("texts, to write a piece: each item", c -> {
            String piece = "RLx.>R>L>xfRfLfxdRdLdxR*L*x*>fR>dL>x*";
            c.due("the text", Looks.text(Looks.of(piece)), piece);
        });
        checks.test("texts, to write a piece: without repeats",
                c -> c.due("the text", Looks.text(Looks.of("2(R*3(.))")), "R*...R*..."));
        checks.test("texts, to write a piece: what is written can be read", c -> {
            String text = Looks.text(Samples.some());
            c.due("the text", Looks.text(Looks.of(text)), text);
        });
    }
}
