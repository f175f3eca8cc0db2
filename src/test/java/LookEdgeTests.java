/** The promises 17 to 25: each sentence that names an edge has a test of its own. */
public final class LookEdgeTests {
    private static final int INVALID = LeanSticks.INVALID_ARGUMENT;
    private static final int NOT_POSSIBLE = LeanSticks.NOT_POSSIBLE;
    private static final int NOT_FOUND = LeanSticks.NOT_FOUND;
    private static final int MIN = Integer.MIN_VALUE;
    private static final int MAX = Integer.MAX_VALUE;
    private static final String FULL = Samples.FULL;
    private static final int MOST = 1000000000;

    public static void main(String[] args) {
        Checks checks = new Checks();
        step(checks);
        stepHands(checks);
        heard(checks);
        stickings(checks);
        clash(checks);
        count(checks);
        countEdges(checks);
        right(checks);
        patterns(checks);
        ifStroke(checks);
        ifStrokeRefused(checks);
        quickest(checks);
        checks.end();
    }

    private static void stepsAre(Checks c, String piece, int what, int... due) {
        LeanSticks x = Looks.of(piece);
        for (int step = 0; step < due.length; step++) {
            c.due("step(" + step + ", " + what + ") of " + piece, x.step(step, what), due[step]);
        }
    }

    private static void step(Checks checks) {
        checks.test("promise 17: what 0, the least, the hand", c -> stepsAre(c, "R>fL.x*", 0, 0, 1, NOT_FOUND, 2));
        checks.test("promise 17: 0: NOT_FOUND for a rest", c -> stepsAre(c, "..", 0, NOT_FOUND, NOT_FOUND));
        checks.test("promise 17: 1: whether it is accented, 0 for a rest", c -> stepsAre(c, "R>fL.>x*", 1, 0, 1, 0, 1));
        checks.test("promise 17: 2: the ornament, 0 for a rest", c -> stepsAre(c, "R>fL.dxL*", 2, 0, 1, 0, 2, 3));
        checks.test("promise 17: 3: how many blows, 0 for a rest", c -> stepsAre(c, ">RfL.dx>L*", 3, 1, 2, 0, 3, 2));
        checks.test("promise 17: 4: the forces together, 0 for a rest",
                c -> stepsAre(c, "R>RfL>fL.dx>dxL*>L*", 4, 2, 3, 3, 4, 0, 4, 5, 3, 4));
        checks.test("promise 17: the first and the last step of 32", c -> {
            LeanSticks x = Looks.of("R5(6(.))L");
            c.due("step(0, 0)", x.step(0, 0), 0);
            c.due("step(31, 0)", x.step(31, 0), 1);
            c.due("step(31, 6)", x.step(31, 6), 1);
        });
        checks.test("promise 17: step too small", c -> {
            c.keeps(Samples::some, "step(-1, 0)", x -> x.step(-1, 0), INVALID);
            c.keeps(Samples::some, "step(MIN, 6)", x -> x.step(MIN, 6), INVALID);
        });
        checks.test("promise 17: step too large", c -> {
            c.keeps(Samples::some, "step(6, 0) of 6", x -> x.step(6, 0), INVALID);
            c.keeps(Samples::some, "step(MAX, 5)", x -> x.step(MAX, 5), INVALID);
            c.keeps(Samples::full, "step(32, 0) of 32", x -> x.step(32, 0), INVALID);
        });
        checks.test("promise 17: without steps", c -> c.keeps(Samples::empty, "step(0, 0)", x -> x.step(0, 0), INVALID));
        checks.test("promise 17: what too small", c -> {
            c.keeps(Samples::some, "step(0, -1)", x -> x.step(0, -1), INVALID);
            c.keeps(Samples::some, "step(0, MIN)", x -> x.step(0, MIN), INVALID);
        });
        checks.test("promise 17: what too large", c -> {
            c.keeps(Samples::some, "step(0, 7)", x -> x.step(0, 7), INVALID);
            c.keeps(Samples::some, "step(0, MAX)", x -> x.step(0, MAX), INVALID);
        });
        checks.test("promise 17: INVALID_ARGUMENT rather than NOT_FOUND", c -> {
            c.keeps(Samples::some, "step(1, 7) of a rest", x -> x.step(1, 7), INVALID);
            c.keeps(Samples::stuck, "step(0, 7), none can be played", x -> x.step(0, 7), INVALID);
            c.keeps(Samples::stuck, "step(3, 5), none can be played", x -> x.step(3, 5), INVALID);
        });
    }

    private static void hands(Checks c, String piece, int quick, String first, String best) {
        LeanSticks x = Looks.of(piece, quick);
        c.due("the first one of " + piece, Looks.hands(x, false), first);
        c.due("the best one of " + piece, Looks.hands(x, true), best);
    }

    private static void stepHands(Checks checks) {
        checks.test("promise 17: 5 and 6: the hands that play", c -> hands(c, "xLxx", 2, "RLRR", "RLRL"));
        checks.test("promise 17: 5 and 6: NOT_FOUND if it is a rest", c -> hands(c, ".x.", 2, "-R-", "-R-"));
        checks.test("promise 17: 5 and 6: NOT_FOUND if no sticking can be played, also of a stroke's own hand", c -> {
            hands(c, "R*dL", 2, "--", "--");
            hands(c, "R*dL.x", 2, "----", "----");
            hands(c, "x.R*dL", 2, "----", "----");
        });
        checks.test("promise 17: 5 and 6: whatever is over and over", c -> hands(c, "x*", 4, "R", "R"));
        checks.test("promise 17: 5 and 6: with the QUICK that is set", c -> {
            hands(c, "x*x", 2, "RR", "RL");
            hands(c, "x*x", 3, "RL", "RL");
            hands(c, "x*fx", 2, "RR", "RR");
            hands(c, "x*fx", 3, "--", "--");
        });
        checks.test("promise 17: 5 and 6: whatever was looked at before", c -> {
            LeanSticks x = Looks.of("x".repeat(30) + "R*dL");
            c.due("of 32 that can't be played", Looks.hands(x, true), "-".repeat(32));
            x.cut(3, 31);
            c.due("the best one of 3", Looks.hands(x, true), "RLR");
            x.put(3, 0);
            c.due("the best one of 4", Looks.hands(x, true), "RLRL");
            Looks.read(x, "xxR*dL");
            c.due("of 4 that can't be played", Looks.hands(x, false), "----");
            x.cut(2, 3);
            c.due("the best one of 2", Looks.hands(x, true), "RL");
        });
        checks.test("promise 17: 5 and 6: a look changes nothing", c -> {
            c.keeps(Samples::some, "step(2, 5)", x -> x.step(2, 5), 0);
            c.keeps(Samples::some, "step(2, 6)", x -> x.step(2, 6), 0);
            c.keeps(Samples::stuck, "step(2, 5)", x -> x.step(2, 5), NOT_FOUND);
            c.keeps(Samples::full, "step(31, 6)", x -> x.step(31, 6), 1);
        });
    }

    private static void heardAt(Checks c, String piece, int tick, int due) {
        c.due("heard(" + tick + ") of '" + piece + "'", Looks.of(piece).heard(tick), due);
    }

    private static void heard(Checks checks) {
        checks.test("promise 18: tick -2, the least", c -> {
            heardAt(c, "dR", -2, 1);
            heardAt(c, "fR", -2, 0);
        });
        checks.test("promise 18: tick -1, ahead of the beginning", c -> {
            heardAt(c, "dR", -1, 1);
            heardAt(c, ">fR", -1, 1);
            heardAt(c, "R", -1, 0);
        });
        checks.test("promise 18: tick 4 times the number of steps, the greatest", c -> {
            heardAt(c, "R*", 4, 0);
            heardAt(c, FULL, 128, 0);
        });
        checks.test("promise 18: the last blow", c -> {
            heardAt(c, "RR*", 6, 1);
            heardAt(c, "5(6(R))RR*", 126, 1);
            heardAt(c, FULL, 124, 2);
        });
        checks.test("promise 18: the forces together", c -> {
            heardAt(c, "R*dR", 2, 2);
            heardAt(c, ">R*>dR", 2, 2);
            heardAt(c, ">R*>dR", 3, 1);
            heardAt(c, ">R*>dR", 4, 3);
            heardAt(c, "R*fR", 2, 1);
        });
        checks.test("promise 18: whatever hands play", c -> {
            heardAt(c, "R*dL", 2, 2);
            heardAt(c, "x*dx", 2, 2);
        });
        checks.test("promise 18: 0 if there is none", c -> {
            heardAt(c, "R", 1, 0);
            heardAt(c, "..", 4, 0);
            heardAt(c, "R*R", 3, 0);
        });
        checks.test("promise 18: without steps", c -> {
            c.keeps(Samples::empty, "heard(-2)", x -> x.heard(-2), 0);
            c.keeps(Samples::empty, "heard(0)", x -> x.heard(0), 0);
            c.keeps(Samples::empty, "heard(1)", x -> x.heard(1), INVALID);
            c.keeps(Samples::empty, "heard(-3)", x -> x.heard(-3), INVALID);
        });
        checks.test("promise 18: tick too small", c -> {
            c.keeps(Samples::some, "heard(-3)", x -> x.heard(-3), INVALID);
            c.keeps(Samples::some, "heard(MIN)", x -> x.heard(MIN), INVALID);
        });
        checks.test("promise 18: tick too large", c -> {
            c.keeps(Samples::some, "heard(25) of 6 steps", x -> x.heard(25), INVALID);
            c.keeps(Samples::full, "heard(129) of 32 steps", x -> x.heard(129), INVALID);
            c.keeps(Samples::some, "heard(MAX)", x -> x.heard(MAX), INVALID);
        });
        checks.test("promise 18: a look changes nothing", c -> c.keeps(Samples::some, "heard(0)", x -> x.heard(0), 3));
    }

    private static void told(Checks c, String piece, int quick, int once, int over) {
        for (int way = 0; way <= 1; way++) {
            LeanSticks x = Looks.of(piece, quick);
            String call = way + ") of '" + piece + "', QUICK " + quick;
            c.due("stickings(false, " + call, x.stickings(false, way), once);
            c.due("stickings(true, " + call, x.stickings(true, way), over);
        }
    }

    private static void stickings(Checks checks) {
        checks.test("promise 19: 1 without strokes", c -> {
            told(c, "", 4, 1, 1);
            told(c, "..", 4, 1, 1);
            told(c, "4(8(.))", 4, 1, 1);
        });
        checks.test("promise 19: 0 if none can be played", c -> told(c, "R*dLx", 1, 0, 0));
        checks.test("promise 19: 1 of own hands", c -> told(c, "RLfR", 3, 1, 1));
        checks.test("promise 19: 8 strokes of either hand", c -> told(c, "2(4(x))", 4, 256, 256));
        checks.test("promise 19: 8 strokes of either hand that are told apart", c -> {
            told(c, "2(4(x*))", 3, 2, 2);
            told(c, "2(4(x*.))", 3, 256, 256);
            told(c, "R*2(4(x*))", 3, 1, 0);
        });
        checks.test("promise 19: 9 strokes of either hand", c -> {
            told(c, "9(x)", 4, 512, 512);
            told(c, "9(x*)", 3, 2, 0);
        });
        checks.test("promise 19: just below the most that is told", c -> told(c, "3(9(x))xx", 4, 1 << 29, 1 << 29));
        checks.test("promise 19: at most 1000000000", c -> {
            told(c, "5(6(x))", 4, MOST, MOST);
            told(c, "5(6(x))x", 4, MOST, MOST);
            told(c, FULL, 4, MOST, MOST);
        });
        checks.test("promise 19: over and over the limit is told of what can be played", c -> told(c, "x*5(6(x))x*", 3, MOST, MOST));
        checks.test("promise 19: way too small", c -> {
            c.keeps(Samples::some, "stickings(false, -1)", x -> x.stickings(false, -1), INVALID);
            c.keeps(Samples::some, "stickings(true, MIN)", x -> x.stickings(true, MIN), INVALID);
        });
        checks.test("promise 19: way too large", c -> {
            c.keeps(Samples::some, "stickings(true, 2)", x -> x.stickings(true, 2), INVALID);
            c.keeps(Samples::some, "stickings(false, MAX)", x -> x.stickings(false, MAX), INVALID);
        });
        checks.test("promise 19: without strokes a wrong way is still wrong",
                c -> c.keeps(Samples::empty, "stickings(false, 2)", x -> x.stickings(false, 2), INVALID));
        checks.test("promise 19: a look changes nothing", c -> {
            for (int way : new int[] {0, 1}) {
                c.keeps(Samples::some, "stickings(false, " + way + ")", x -> x.stickings(false, way), 4);
                c.keeps(Samples::some, "stickings(true, " + way + ")", x -> x.stickings(true, way), 4);
                c.keeps(Samples::full, "stickings(true, " + way + ")", x -> x.stickings(true, way), MOST);
            }
        });
    }

    private static void clashes(Checks c, String piece, int quick, int due) {
        c.due("clash() of '" + piece + "', QUICK " + quick, Looks.of(piece, quick).clash(), due);
    }

    private static void clash(Checks checks) {
        checks.test("promise 20: step 1, the first that can clash", c -> clashes(c, "R*dL", 1, 1));
        checks.test("promise 20: step 31, the last one", c -> clashes(c, "5(6(R))R*dL", 1, 31));
        checks.test("promise 20: the first of several", c -> clashes(c, "RR*dLR*dL", 1, 2));
        checks.test("promise 20: the step with the blow behind, not the one ahead", c -> clashes(c, "..R*fL", 2, 3));
        checks.test("promise 20: steps with a rest between", c -> clashes(c, "R*.dL", 4, NOT_FOUND));
        checks.test("promise 20: NOT_POSSIBLE if a stroke is of either hand", c -> {
            clashes(c, "x", 2, NOT_POSSIBLE);
            clashes(c, "RLx", 2, NOT_POSSIBLE);
            clashes(c, "R*dLx", 2, NOT_POSSIBLE);
            c.keeps(Samples::some, "clash()", LeanSticks::clash, NOT_POSSIBLE);
        });
        checks.test("promise 20: NOT_POSSIBLE rather than NOT_FOUND", c -> clashes(c, "RLx", 1, NOT_POSSIBLE));
        checks.test("promise 20: NOT_FOUND if there is no clash", c -> clashes(c, "RLRfL", 3, NOT_FOUND));
        checks.test("promise 20: NOT_FOUND without strokes", c -> {
            clashes(c, "", 4, NOT_FOUND);
            clashes(c, "...", 4, NOT_FOUND);
            c.keeps(Samples::empty, "clash()", LeanSticks::clash, NOT_FOUND);
        });
        checks.test("promise 20: only once, not over and over", c -> {
            clashes(c, "R*", 4, NOT_FOUND);
            clashes(c, "dLR*", 1, NOT_FOUND);
        });
        checks.test("promise 20: with the QUICK that is set", c -> {
            clashes(c, "RfL", 3, NOT_FOUND);
            clashes(c, "RfL", 4, 1);
        });
    }

    private static void counts(Checks c, String piece, int what, int due) {
        c.due("count(" + what + ") of '" + piece + "'", Looks.of(piece).count(what), due);
    }

    private static void count(Checks checks) {
        checks.test("promise 21: 0: steps", c -> {
            counts(c, "", 0, 0);
            counts(c, "R.L", 0, 3);
            counts(c, FULL, 0, 32);
        });
        checks.test("promise 21: 1: rests", c -> {
            counts(c, "RL", 1, 0);
            counts(c, ".R..", 1, 3);
            counts(c, "4(8(.))", 1, 32);
        });
        checks.test("promise 21: 2, 3 and 4: strokes of a hand, rests are of none", c -> {
            String piece = "R.>fRdRL*.Lxx.x*x";
            counts(c, piece, 2, 3);
            counts(c, piece, 3, 2);
            counts(c, piece, 4, 4);
            counts(c, "4(8(.))", 2, 0);
            counts(c, "4(8(R))", 2, 32);
            counts(c, "4(8(L))", 3, 32);
            counts(c, FULL, 4, 32);
        });
        checks.test("promise 21: 5: accents", c -> {
            counts(c, "R.fL", 5, 0);
            counts(c, ">R>fL>x*", 5, 3);
        });
        checks.test("promise 21: 6, 7 and 8: ornaments, plain strokes and rests have none", c -> {
            String piece = "fR>fL.RxdxL*L*R*.dRdL>dL";
            counts(c, piece, 6, 2);
            counts(c, piece, 7, 4);
            counts(c, piece, 8, 3);
        });
        checks.test("promise 21: 9: blows", c -> {
            counts(c, "..", 9, 0);
            counts(c, ">R.fLdxL*", 9, 8);
            counts(c, "4(8(dL))", 9, 96);
        });
        checks.test("promise 21: 10: all forces together", c -> {
            counts(c, "..", 10, 0);
            counts(c, "R>R.fL>dxL*", 10, 16);
            counts(c, "4(8(>dL))", 10, 160);
        });
        checks.test("promise 21: 11: QUICK", c -> {
            counts(c, "", 11, 2);
            c.due("count(11)", Looks.of("R", 4).count(11), 4);
        });
    }

    private static void countEdges(Checks checks) {
        checks.test("promise 21: 12: the longest row of strokes", c -> {
            counts(c, "", 12, 0);
            counts(c, "..", 12, 0);
            counts(c, "R", 12, 1);
            counts(c, FULL, 12, 32);
            counts(c, "RLx.R", 12, 3);
            counts(c, "R.fLdx", 12, 2);
            counts(c, ".RL.RLR.R.", 12, 3);
        });
        checks.test("promise 21: 12: over and over a row does not go on", c -> counts(c, "RR.RR", 12, 2));
        checks.test("promise 21: 13: the length of the text", c -> {
            counts(c, "", 13, 0);
            counts(c, "R>L.>fR>x*", 13, 10);
            counts(c, "4(8(>dL))", 13, 96);
            counts(c, "4(8(>L*))", 13, 96);
        });
        checks.test("promise 21: 14: the length of the pad", c -> {
            c.due("of none", Samples.some().count(14), 4);
            c.due("of the full one", Samples.fullPad().count(14), 60);
            counts(c, "R", 14, 0);
        });
        checks.test("promise 21: 15: states in the history", c -> {
            counts(c, "", 15, 0);
            counts(c, "R", 15, 1);
            c.due("at most 4", Samples.some().count(15), 4);
        });
        checks.test("promise 21: what too small", c -> {
            c.keeps(Samples::some, "count(-1)", x -> x.count(-1), INVALID);
            c.keeps(Samples::some, "count(MIN)", x -> x.count(MIN), INVALID);
        });
        checks.test("promise 21: what too large", c -> {
            c.keeps(Samples::some, "count(16)", x -> x.count(16), INVALID);
            c.keeps(Samples::some, "count(MAX)", x -> x.count(MAX), INVALID);
        });
        checks.test("promise 21: steps that were cut off are not counted", c -> {
            LeanSticks x = Looks.of("4(8(>fL))");
            x.cut(0, 31);
            for (int what : new int[] {0, 1, 2, 3, 4, 5, 6, 7, 8, 9, 10, 12, 13}) {
                c.due("count(" + what + ")", x.count(what), 0);
            }
        });
        checks.test("promise 21: a look changes nothing", c -> {
            for (int what = 0; what <= 15; what++) {
                int each = what;
                int due = Samples.some().count(what);
                c.keeps(Samples::some, "count(" + what + ")", x -> x.count(each), due);
            }
        });
    }

    private static void rights(Checks c, String piece, int quick, double first, double best) {
        c.due("right(false) of '" + piece + "'", Looks.of(piece, quick).right(false), first);
        c.due("right(true) of '" + piece + "'", Looks.of(piece, quick).right(true), best);
    }

    private static void right(Checks checks) {
        checks.test("promise 22: -1.0 if there are no strokes", c -> {
            rights(c, "", 2, -1.0, -1.0);
            rights(c, "..", 2, -1.0, -1.0);
        });
        checks.test("promise 22: -1.0 if no sticking can be played", c -> rights(c, "R*dLx", 1, -1.0, -1.0));
        checks.test("promise 22: all is the right hand's", c -> rights(c, "R>RR*.", 2, 1.0, 1.0));
        checks.test("promise 22: nothing is the right hand's", c -> rights(c, "L>LL*.", 2, 0.0, 0.0));
        checks.test("promise 22: small blows of flams and drags are the other hand's", c -> {
            rights(c, "fL", 2, 1.0 / 3.0, 1.0 / 3.0);
            rights(c, "dL", 2, 2.0 / 4.0, 2.0 / 4.0);
            rights(c, ">fR", 2, 3.0 / 4.0, 3.0 / 4.0);
            rights(c, ">dR", 2, 3.0 / 5.0, 3.0 / 5.0);
        });
        checks.test("promise 22: small blows of doubles are the own hand's", c -> {
            rights(c, "R*.L", 2, 3.0 / 5.0, 3.0 / 5.0);
            rights(c, "R.>L*", 2, 2.0 / 6.0, 2.0 / 6.0);
        });
        checks.test("promise 22: by the first one or by the best one", c -> {
            rights(c, "xx", 2, 1.0, 0.5);
            rights(c, "xL>x", 2, 5.0 / 7.0, 5.0 / 7.0);
            rights(c, "xxx", 2, 1.0, 4.0 / 6.0);
            rights(c, "xR", 2, 1.0, 0.5);
        });
        checks.test("promise 22: with the QUICK that is set", c -> {
            rights(c, "x*x", 2, 1.0, 3.0 / 5.0);
            rights(c, "x*x", 3, 3.0 / 5.0, 3.0 / 5.0);
            rights(c, "x*fx", 3, -1.0, -1.0);
        });
        checks.test("promise 22: a look changes nothing", c -> {
            c.keepsDouble(Samples::stuck, "right(true)", x -> x.right(true), -1.0);
            c.keepsDouble(Samples::empty, "right(false)", x -> x.right(false), -1.0);
            c.keepsDouble(Samples::full, "right(true)", x -> x.right(true), 0.5);
            c.keepsDouble(Samples::full, "right(false)", x -> x.right(false), 1.0);
        });
    }

    private static void comes(Checks c, String piece, String pattern, int due) {
        LeanSticks x = Looks.of(piece);
        Looks.type(x, pattern);
        c.due("patterns() of '" + pattern + "' in '" + piece + "'", x.patterns(), due);
    }

    private static LeanSticks searched(LeanSticks x, String pattern) {
        Looks.type(x, pattern);
        return x;
    }

    private static void patterns(Checks checks) {
        checks.test("promise 23: as long as the piece", c -> {
            comes(c, "RL.", "Rx.", 1);
            comes(c, FULL, "x".repeat(32), 1);
        });
        checks.test("promise 23: longer than the piece", c -> {
            comes(c, "RL.", "RL..", 0);
            comes(c, FULL, "x".repeat(33), 0);
            comes(c, "R", "x".repeat(60), 0);
        });
        checks.test("promise 23: without steps", c -> comes(c, "", ".", 0));
        checks.test("promise 23: that begins at the first step", c -> comes(c, "RL...", "RL", 1));
        checks.test("promise 23: that ends at the last step", c -> comes(c, "...RL", "RL", 1));
        checks.test("promise 23: of one step at each", c -> comes(c, "RRR", "R", 3));
        checks.test("promise 23: that comes across itself", c -> {
            comes(c, "RRRR", "RR", 3);
            comes(c, "R.R.R", "R.R", 2);
        });
        checks.test("promise 23: over and over it does not go on", c -> comes(c, "LR", "RL", 0));
        checks.test("promise 23: x is a stroke of any hand, and no rest", c -> comes(c, "RL.fx", "x", 3));
        checks.test("promise 23: R and L are no rests", c -> {
            comes(c, "...", "R", 0);
            comes(c, "...", "L", 0);
        });
        checks.test("promise 23: a rest is no stroke", c -> comes(c, "RLx", ".", 0));
        checks.test("promise 23: whatever accents and ornaments", c -> comes(c, ">fRdLR>L*", "RL", 2));
        checks.test("promise 23: hands by the best sticking, not by the first one", c -> {
            comes(c, "xxxx", "RL", 2);
            comes(c, "xxxx", "RR", 0);
        });
        checks.test("promise 23: NOT_POSSIBLE if the pad has a fault", c -> {
            comes(c, "R", "", NOT_POSSIBLE);
            comes(c, "R", "R*", NOT_POSSIBLE);
            comes(c, "R", "2(R)", NOT_POSSIBLE);
            comes(c, "", "", NOT_POSSIBLE);
            c.keeps(Samples::some, "patterns()", LeanSticks::patterns, NOT_POSSIBLE);
            c.keeps(Samples::fullPad, "patterns()", LeanSticks::patterns, NOT_POSSIBLE);
        });
        checks.test("promise 23: NOT_POSSIBLE if no sticking can be played", c -> {
            comes(c, "R*dL", "R", NOT_POSSIBLE);
            comes(c, "R*dL", ".", NOT_POSSIBLE);
            comes(c, "R*dL", "RRRR", NOT_POSSIBLE);
        });
        checks.test("promise 23: a look changes nothing", c -> {
            c.keeps(() -> searched(Samples.some(), "x."), "patterns()", LeanSticks::patterns, 1);
            c.keeps(() -> searched(Samples.stuck(), "x."), "patterns()", LeanSticks::patterns, NOT_POSSIBLE);
            c.keeps(() -> searched(Samples.full(), "RL"), "patterns()", LeanSticks::patterns, 16);
        });
    }

    private static void wouldBe(Checks c, String piece, int step, int hand, int ornament, int... due) {
        LeanSticks x = Looks.of(piece);
        for (int what = 0; what < due.length; what++) {
            String call = "ifStroke(" + step + ", " + hand + ", " + ornament + ", " + what + ") of '" + piece + "'";
            c.due(call, x.ifStroke(step, hand, ornament, what), due[what]);
        }
    }

    private static void ifStroke(Checks checks) {
        checks.test("promise 24: the first step", c -> wouldBe(c, "RxL", 0, 2, 0, 4, 4, 0));
        checks.test("promise 24: the last step", c -> wouldBe(c, "RxL", 2, 0, 0, 2, 2, 0));
        checks.test("promise 24: the last step of 32", c -> {
            LeanSticks x = Looks.of("5(6(R))RR");
            c.due("ifStroke(31, 2, 0, 0)", x.ifStroke(31, 2, 0, 0), 2);
            c.due("ifStroke(31, 1, 0, 2)", x.ifStroke(31, 1, 0, 2), 30);
            c.due("ifStroke(31, 0, 0, 2)", x.ifStroke(31, 0, 0, 2), 31);
        });
        checks.test("promise 24: hand 0, the least, to hand 2, the greatest", c -> {
            wouldBe(c, "Rx", 0, 0, 0, 2, 2, 0);
            wouldBe(c, "Rx", 0, 1, 0, 2, 2, 0);
            wouldBe(c, "Rx", 0, 2, 0, 4, 4, 0);
        });
        checks.test("promise 24: ornament 0, the least, to ornament 3, the greatest", c -> {
            wouldBe(c, "x*dx", 1, 2, 0, 4, 4, 0);
            wouldBe(c, "x*dx", 1, 2, 1, 2, 2, 1);
            wouldBe(c, "x*dx", 1, 2, 2, 2, 2, 1);
            wouldBe(c, "x*dx", 1, 2, 3, 4, 4, 0);
        });
        checks.test("promise 24: a rest becomes a stroke", c -> {
            wouldBe(c, "R*.dL", 1, 2, 0, 2, 2, 1);
            wouldBe(c, "R*.dL", 1, 2, 3, 1, 1, 1);
            wouldBe(c, "R*.dL", 1, 1, 2, 0, 0, NOT_FOUND);
        });
        checks.test("promise 24: 0: 0 if none could be played", c -> wouldBe(c, "R*L", 1, 1, 2, 0));
        checks.test("promise 24: 1: over and over, the same step again", c -> {
            LeanSticks x = Looks.of("x", 3);
            c.due("once", x.ifStroke(0, 2, 3, 0), 2);
            c.due("over and over", x.ifStroke(0, 2, 3, 1), 0);
            c.due("repeated", x.ifStroke(0, 2, 3, 2), 0);
        });
        checks.test("promise 24: 0 and 1: as stickings() tells, at most 1000000000", c -> {
            LeanSticks x = Looks.of("4(8(x*))");
            c.due("0", x.ifStroke(0, 2, 0, 0), MOST);
            c.due("1", x.ifStroke(0, 2, 0, 1), MOST);
            LeanSticks below = Looks.of("3(9(x))xL.");
            c.due("0 below", below.ifStroke(28, 2, 0, 0), 1 << 29);
            c.due("1 below", below.ifStroke(28, 2, 0, 1), 1 << 29);
            c.due("0 above", Looks.of("3(9(x))xxL.").ifStroke(29, 2, 0, 0), MOST);
            c.due("1 above", Looks.of("3(9(x))xxL.").ifStroke(29, 2, 0, 1), MOST);
        });
        checks.test("promise 24: 2: the first stroke has none before it", c -> wouldBe(c, "R", 0, 0, 0, 1, 1, 0));
        checks.test("promise 24: 2: rests do not matter", c -> wouldBe(c, "R..R", 3, 0, 3, 1, 1, 1));
        checks.test("promise 24: 2: NOT_FOUND if none could be played", c -> wouldBe(c, "R*x", 1, 1, 2, 0, 0, NOT_FOUND));
        checks.test("promise 24: none could be played without it",
                c -> wouldBe(c, "R*dL", 1, 1, 0, 1, 1, 0));
        checks.test("promise 24: nothing is changed", c -> {
            c.keeps(Samples::some, "ifStroke(1, 2, 3, 0)", x -> x.ifStroke(1, 2, 3, 0), 8);
            c.keeps(Samples::some, "ifStroke(1, 2, 3, 1)", x -> x.ifStroke(1, 2, 3, 1), 8);
            c.keeps(Samples::some, "ifStroke(1, 1, 0, 2)", x -> x.ifStroke(1, 1, 0, 2), 1);
            c.keeps(Samples::full, "ifStroke(31, 0, 3, 2)", x -> x.ifStroke(31, 0, 3, 2), 0);
            c.keeps(Samples::stuck, "ifStroke(1, 1, 2, 2)", x -> x.ifStroke(1, 1, 2, 2), NOT_FOUND);
        });
    }

    private static void ifStrokeRefused(Checks checks) {
        checks.test("promise 24: step too small", c -> {
            c.keeps(Samples::some, "step -1", x -> x.ifStroke(-1, 0, 0, 0), INVALID);
            c.keeps(Samples::some, "step MIN", x -> x.ifStroke(MIN, 0, 0, 0), INVALID);
        });
        checks.test("promise 24: step too large, none is added", c -> {
            c.keeps(Samples::some, "step 6 of 6", x -> x.ifStroke(6, 0, 0, 0), INVALID);
            c.keeps(Samples::full, "step 32 of 32", x -> x.ifStroke(32, 0, 0, 0), INVALID);
            c.keeps(Samples::some, "step MAX", x -> x.ifStroke(MAX, 0, 0, 0), INVALID);
            c.keeps(Samples::empty, "step 0 of none", x -> x.ifStroke(0, 0, 0, 0), INVALID);
        });
        checks.test("promise 24: hand too small", c -> {
            c.keeps(Samples::some, "hand -1", x -> x.ifStroke(0, -1, 0, 0), INVALID);
            c.keeps(Samples::some, "hand MIN", x -> x.ifStroke(0, MIN, 0, 0), INVALID);
        });
        checks.test("promise 24: hand too large", c -> {
            c.keeps(Samples::some, "hand 3", x -> x.ifStroke(0, 3, 0, 0), INVALID);
            c.keeps(Samples::some, "hand MAX", x -> x.ifStroke(0, MAX, 0, 0), INVALID);
        });
        checks.test("promise 24: ornament too small", c -> {
            c.keeps(Samples::some, "ornament -1", x -> x.ifStroke(0, 0, -1, 0), INVALID);
            c.keeps(Samples::some, "ornament MIN", x -> x.ifStroke(0, 0, MIN, 0), INVALID);
        });
        checks.test("promise 24: ornament too large", c -> {
            c.keeps(Samples::some, "ornament 4", x -> x.ifStroke(0, 0, 4, 0), INVALID);
            c.keeps(Samples::some, "ornament MAX", x -> x.ifStroke(0, 0, MAX, 0), INVALID);
        });
        checks.test("promise 24: what too small", c -> {
            c.keeps(Samples::some, "what -1", x -> x.ifStroke(0, 0, 0, -1), INVALID);
            c.keeps(Samples::some, "what MIN", x -> x.ifStroke(0, 0, 0, MIN), INVALID);
        });
        checks.test("promise 24: what too large", c -> {
            c.keeps(Samples::some, "what 3", x -> x.ifStroke(0, 0, 0, 3), INVALID);
            c.keeps(Samples::some, "what MAX", x -> x.ifStroke(0, 0, 0, MAX), INVALID);
        });
        checks.test("promise 24: INVALID_ARGUMENT rather than NOT_FOUND", c -> {
            c.keeps(Samples::stuck, "step 3 of 3", x -> x.ifStroke(3, 0, 0, 2), INVALID);
            c.keeps(Samples::stuck, "hand 3", x -> x.ifStroke(2, 3, 0, 2), INVALID);
        });
    }

    private static void quickestIs(Checks c, String piece, int due) {
        for (int quick = 1; quick <= 4; quick++) {
            LeanSticks x = Looks.of(piece, quick);
            c.due("quickest() of '" + piece + "', QUICK " + quick, x.quickest(), due);
            c.due("QUICK then", x.count(11), quick);
        }
    }

    private static void quickest(Checks checks) {
        checks.test("promise 25: 4, the greatest", c -> quickestIs(c, "RLxR.x*", 4));
        checks.test("promise 25: 3", c -> quickestIs(c, "RfL", 3));
        checks.test("promise 25: 2", c -> quickestIs(c, "RdL", 2));
        checks.test("promise 25: 1, the least", c -> quickestIs(c, "R*fL", 1));
        checks.test("promise 25: NOT_FOUND if there is none", c -> quickestIs(c, "R*dL", NOT_FOUND));
        checks.test("promise 25: of strokes of either hand", c -> {
            quickestIs(c, "x*fx", 2);
            quickestIs(c, "x*x*x*", 4);
            quickestIs(c, "dxdx", 3);
        });
        checks.test("promise 25: without strokes the empty sticking can be played", c -> {
            quickestIs(c, "", 4);
            quickestIs(c, "..", 4);
        });
        checks.test("promise 25: once, not over and over", c -> quickestIs(c, "x*", 4));
        checks.test("promise 25: of steps that were written one by one, after another piece", c -> {
            LeanSticks x = Looks.of("RL");
            c.due("quickest() of RL", x.quickest(), 4);
            x.stroke(1, 1, false, 2);
            c.due("quickest() of RdL", x.quickest(), 2);
            x.stroke(0, 0, false, 3);
            c.due("quickest() of R*dL", x.quickest(), NOT_FOUND);
            x.cut(0, 0);
            c.due("quickest() of dL", x.quickest(), 4);
        });
        checks.test("promise 25: nothing is changed", c -> {
            c.keeps(Samples::some, "quickest()", LeanSticks::quickest, 4);
            c.keeps(Samples::stuck, "quickest()", LeanSticks::quickest, NOT_FOUND);
            c.keeps(Samples::empty, "quickest()", LeanSticks::quickest, 4);
        });
    }
}
