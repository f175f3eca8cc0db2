/** The promises 1 to 28, each with ordinary inputs, the edges that the document names, and wrong inputs. */
public final class PromiseTests {
    private static final int INVALID = LeanSticks.INVALID_ARGUMENT;
    private static final int NOT_POSSIBLE = LeanSticks.NOT_POSSIBLE;
    private static final int LIMIT = LeanSticks.LIMIT_REACHED;
    private static final int NOT_FOUND = LeanSticks.NOT_FOUND;
    private static final int MIN = Integer.MIN_VALUE;
    private static final int MAX = Integer.MAX_VALUE;
    private static final String FULL = "4(8(x))";

    public static void main(String[] args) {
        Checks checks = new Checks();
        checks.test("promise 1: a new object", PromiseTests::newObject);
        checks.test("promise 2: stroke", PromiseTests::stroke);
        checks.test("promise 3: rest", PromiseTests::rest);
        checks.test("promise 4: put", PromiseTests::put);
        checks.test("promise 5: cut", PromiseTests::cut);
        checks.test("promise 6: mirror", PromiseTests::mirror);
        checks.test("promise 7: turn", PromiseTests::turn);
        checks.test("promise 8: lean", PromiseTests::lean);
        checks.test("promise 9: set", PromiseTests::set);
        checks.test("promise 10: decide", PromiseTests::decide);
        checks.test("promise 11: append", PromiseTests::append);
        checks.test("promise 12: clear", PromiseTests::clear);
        checks.test("promise 13: fault, of pieces", PromiseTests::pieceFault);
        checks.test("promise 13: fault, of patterns", PromiseTests::patternFault);
        checks.test("promise 14: read", PromiseTests::read);
        checks.test("promise 15: why", PromiseTests::why);
        checks.test("promise 16: sign", PromiseTests::sign);
        checks.test("promise 17: step", PromiseTests::step);
        checks.test("promise 17: step, hands that play", PromiseTests::stepHands);
        checks.test("promise 18: heard", PromiseTests::heard);
        checks.test("promise 19: stickings", PromiseTests::stickings);
        checks.test("promise 19: stickings over and over", PromiseTests::stickingsOver);
        checks.test("promise 19: stickings of long pieces", PromiseTests::stickingsOfMany);
        checks.test("promise 20: clash", PromiseTests::clash);
        checks.test("promise 21: count", PromiseTests::count);
        checks.test("promise 22: right", PromiseTests::right);
        checks.test("promise 23: patterns", PromiseTests::patterns);
        checks.test("promise 24: ifStroke", PromiseTests::ifStroke);
        checks.test("promise 25: quickest", PromiseTests::quickest);
        checks.test("promise 25: quickest, of steps that are written", PromiseTests::quickestOfWritten);
        checks.test("promise 26: undo", PromiseTests::undo);
        checks.test("promise 27: save", PromiseTests::save);
        checks.test("promise 28: restore", PromiseTests::restore);
        checks.end();
    }

    private static void newObject(Checks c) {
        LeanSticks x = new LeanSticks();
        for (int what = 0; what <= 15; what++) {
            c.due("count(" + what + ")", x.count(what), what == 11 ? 2 : 0);
        }
        c.due("sign(0)", x.sign(0), NOT_FOUND);
        c.due("why()", x.why(), 0);
        c.due("clash()", x.clash(), NOT_FOUND);
        c.due("quickest()", x.quickest(), 4);
        c.due("patterns()", x.patterns(), NOT_POSSIBLE);
        c.due("undo()", x.undo(), NOT_POSSIBLE);
        c.due("restore()", x.restore(), NOT_POSSIBLE);
        x.stroke(0, 0, false, 0);
        c.due("another object", new LeanSticks().count(0), 0);
    }

    private static void stroke(Checks c) {
        LeanSticks x = new LeanSticks();
        c.due("stroke(0, R)", x.stroke(0, 0, false, 0), 1);
        c.due("stroke(1, L >)", x.stroke(1, 1, true, 0), 2);
        c.due("stroke(2, x f)", x.stroke(2, 2, false, 1), 3);
        c.due("stroke(3, R > d)", x.stroke(3, 0, true, 2), 4);
        c.due("stroke(4, L *)", x.stroke(4, 1, false, 3), 5);
        c.due("the text", Looks.text(x), "R>Lfx>dRL*");
        c.due("stroke(1, x *)", x.stroke(1, 2, false, 3), 5);
        c.due("the text then", Looks.text(x), "Rx*fx>dRL*");
        x.rest(0);
        c.due("stroke(0, L > *)", x.stroke(0, 1, true, 3), 5);
        c.due("the text at last", Looks.text(x), ">L*x*fx>dRL*");
        strokeRefused(c, x);
        c.due("each is a change", Looks.of("R").stroke(0, 0, false, 0), 1);
    }

    private static void strokeRefused(Checks c, LeanSticks x) {
        for (int step : new int[] {-1, 6, 32, 33, MIN, MAX}) {
            c.refused(x, "stroke at " + step, () -> x.stroke(step, 0, false, 0), INVALID);
        }
        for (int bad : new int[] {-1, 3, MIN, MAX}) {
            c.refused(x, "stroke of hand " + bad, () -> x.stroke(0, bad, false, 0), INVALID);
        }
        for (int bad : new int[] {-1, 4, MIN, MAX}) {
            c.refused(x, "stroke with ornament " + bad, () -> x.stroke(0, 0, true, bad), INVALID);
        }
        LeanSticks full = Looks.of(FULL);
        c.refused(full, "stroke added to 32", () -> full.stroke(32, 0, false, 0), LIMIT);
        c.refused(full, "stroke at 33 of 32", () -> full.stroke(33, 0, false, 0), INVALID);
        c.refused(full, "wrong hand at 32", () -> full.stroke(32, 3, false, 0), INVALID);
        c.refused(full, "wrong ornament at 32", () -> full.stroke(32, 0, false, 4), INVALID);
        c.due("stroke(31)", full.stroke(31, 0, false, 0), 32);
        LeanSticks nearly = Looks.of("R5(6(x))");
        c.due("the 32nd", nearly.stroke(31, 0, false, 0), 32);
    }

    private static void rest(Checks c) {
        LeanSticks x = new LeanSticks();
        c.due("rest(0)", x.rest(0), 1);
        c.due("rest(1)", x.rest(1), 2);
        x.stroke(2, 1, true, 3);
        c.due("rest(2)", x.rest(2), 3);
        c.due("the text", Looks.text(x), "...");
        for (int what = 0; what <= 6; what++) {
            boolean isHand = what == 0 || what >= 5;
            c.due("step(2, " + what + ")", x.step(2, what), isHand ? NOT_FOUND : 0);
        }
        c.due("history", x.count(15), 4);
        for (int step : new int[] {-1, 4, 32, MIN, MAX}) {
            c.refused(x, "rest(" + step + ")", () -> x.rest(step), INVALID);
        }
        LeanSticks full = Looks.of(FULL);
        c.refused(full, "rest(32)", () -> full.rest(32), LIMIT);
        c.refused(full, "rest(33)", () -> full.rest(33), INVALID);
        c.due("rest(31)", full.rest(31), 32);
    }

    private static void put(Checks c) {
        LeanSticks x = Looks.of("R.>fL");
        c.due("put(0, 2)", x.put(0, 2), 4);
        c.due("ahead", Looks.text(x), ">fLR.>fL");
        c.due("put(4, 1)", x.put(4, 1), 5);
        c.due("behind", Looks.text(x), ">fLR.>fLR");
        c.due("put(1, 4)", x.put(1, 4), 6);
        c.due("a later one", Looks.text(x), ">fLRR.>fLR");
        c.due("put(3, 3)", x.put(3, 3), 7);
        c.due("itself", Looks.text(x), ">fLRR..>fLR");
        for (int bad : new int[] {-1, 8, MIN, MAX}) {
            c.refused(x, "put at " + bad, () -> x.put(bad, 0), INVALID);
            c.refused(x, "put like " + bad, () -> x.put(0, bad), INVALID);
        }
        c.refused(x, "put like the number of steps", () -> x.put(0, 7), INVALID);
        LeanSticks empty = new LeanSticks();
        c.refused(empty, "put(0, 0) without steps", () -> empty.put(0, 0), INVALID);
        LeanSticks full = Looks.of(FULL);
        c.refused(full, "put(0, 0) at 32", () -> full.put(0, 0), LIMIT);
        c.refused(full, "put(32, 31) at 32", () -> full.put(32, 31), LIMIT);
        c.refused(full, "put(33, 0) at 32", () -> full.put(33, 0), INVALID);
        c.refused(full, "put(0, 32) at 32", () -> full.put(0, 32), INVALID);
        LeanSticks nearly = Looks.of("R5(6(x))");
        c.due("the 32nd", nearly.put(31, 0), 32);
        c.due("its hand", nearly.step(31, 0), 0);
    }

    private static void cut(Checks c) {
        LeanSticks x = Looks.of("RL.fRdLR*");
        c.due("cut(1, 2)", x.cut(1, 2), 4);
        c.due("of the middle", Looks.text(x), "RfRdLR*");
        c.due("cut(3, 3)", x.cut(3, 3), 3);
        c.due("of the end", Looks.text(x), "RfRdL");
        c.due("cut(0, 0)", x.cut(0, 0), 2);
        c.due("of the beginning", Looks.text(x), "fRdL");
        for (int bad : new int[] {-1, 2, MIN, MAX}) {
            c.refused(x, "cut from " + bad, () -> x.cut(bad, 1), INVALID);
            c.refused(x, "cut to " + bad, () -> x.cut(0, bad), INVALID);
        }
        c.refused(x, "cut(1, 0)", () -> x.cut(1, 0), INVALID);
        c.due("cut(0, 1)", x.cut(0, 1), 0);
        c.due("all", Looks.text(x), "");
        c.refused(x, "cut(0, 0) without steps", () -> x.cut(0, 0), INVALID);
        c.due("cut of 32", Looks.of(FULL).cut(0, 31), 0);
    }

    private static void mirror(Checks c) {
        LeanSticks x = Looks.of("R>fLx.dR>L*dx");
        c.due("mirror()", x.mirror(), 4);
        c.due("the text", Looks.text(x), "L>fRx.dL>R*dx");
        c.due("undo()", x.undo(), 1);
        c.due("the text before", Looks.text(x), "R>fLx.dR>L*dx");
        LeanSticks none = Looks.of("x.");
        c.due("none", none.mirror(), 0);
        c.due("none is a change", none.count(15), 2);
        c.due("without steps", new LeanSticks().mirror(), 0);
    }

    private static void turn(Checks c) {
        LeanSticks x = Looks.of("RLfR.x");
        c.due("turn(2)", x.turn(2), 5);
        c.due("the text", Looks.text(x), "fR.xRL");
        c.due("turn(0)", x.turn(0), 0);
        c.due("turn(5)", x.turn(5), 0);
        c.due("the same text", Looks.text(x), "fR.xRL");
        c.due("each is a change", x.count(15), 4);
        c.due("turn(4)", x.turn(4), 5);
        c.due("back one", Looks.text(x), "LfR.xR");
        c.due("some stay", Looks.of("RRRL").turn(1), 2);
        c.due("rests stay", Looks.of("..RL.").turn(4), 3);
        c.due("alternating", Looks.of("RLRL").turn(2), 0);
        c.due("an accent", Looks.of("R>R").turn(1), 2);
        c.due("an ornament", Looks.of("fRdR").turn(1), 2);
        c.due("a hand", Looks.of("Rx").turn(1), 2);
        for (int bad : new int[] {-1, 6, MIN, MAX}) {
            c.refused(x, "turn(" + bad + ")", () -> x.turn(bad), INVALID);
        }
        LeanSticks empty = new LeanSticks();
        c.due("turn(0) without steps", empty.turn(0), 0);
        c.due("a change", empty.count(15), 1);
        c.refused(empty, "turn(1) without steps", () -> empty.turn(1), INVALID);
    }

    private static void lean(Checks c) {
        LeanSticks x = Looks.of("fR>dLR*.fx>fLR");
        c.due("lean(true)", x.lean(true), 3);
        c.due("drags", Looks.text(x), "dR>dLR*.dx>dLR");
        c.due("lean(true) again", x.lean(true), 0);
        c.due("lean(false)", x.lean(false), 4);
        c.due("flams", Looks.text(x), "fR>fLR*.fx>fLR");
        c.due("lean(false) again", x.lean(false), 0);
        c.due("each is a change", x.count(15), 4);
        c.due("undo()", x.undo(), 3);
        c.due("undo()", x.undo(), 2);
        c.due("as before", Looks.text(x), "dR>dLR*.dx>dLR");
        c.due("without steps", new LeanSticks().lean(true), 0);
    }

    private static void set(Checks c) {
        LeanSticks x = Looks.of("R*dL");
        c.due("set(4)", x.set(4), 2);
        c.due("set(1)", x.set(1), 4);
        c.due("set(1) again", x.set(1), 1);
        c.due("set(3)", x.set(3), 1);
        c.due("QUICK", x.count(11), 3);
        c.due("each is a change", x.count(15), 4);
        for (int bad : new int[] {0, -1, 5, MIN, MAX}) {
            c.refused(x, "set(" + bad + ")", () -> x.set(bad), INVALID);
        }
        x.undo();
        c.due("undone", x.count(11), 1);
    }

    private static void decide(Checks c) {
        LeanSticks first = Looks.of(">fx.xRx*");
        c.due("decide(false)", first.decide(false), 3);
        c.due("the first one", Looks.text(first), ">fR.RRR*");
        LeanSticks best = Looks.of(">fx.xRx*");
        c.due("decide(true)", best.decide(true), 3);
        c.due("the best one", Looks.text(best), ">fR.LRL*");
        c.due("decided already", best.decide(true), 0);
        c.due("each is a change", best.count(15), 3);
        c.due("undo()", best.undo(), 2);
        c.due("undo()", best.undo(), 1);
        c.due("undone", Looks.text(best), ">fx.xRx*");
        LeanSticks none = Looks.of("xR*dL");
        c.refused(none, "decide(true)", () -> none.decide(true), NOT_POSSIBLE);
        c.refused(none, "decide(false)", () -> none.decide(false), NOT_POSSIBLE);
        LeanSticks own = Looks.of("R*dL");
        c.refused(own, "decide without either hand", () -> own.decide(true), NOT_POSSIBLE);
        c.due("without steps", new LeanSticks().decide(true), 0);
        LeanSticks once = Looks.of("x*", 4);
        c.due("over and over does not matter", once.decide(true), 1);
    }

    private static void append(Checks c) {
        LeanSticks x = new LeanSticks();
        c.due("append(33)", x.append(33), 1);
        c.due("append(126)", x.append(126), 2);
        for (int bad : new int[] {32, 127, 0, -1, 82 + 256, MIN, MAX}) {
            c.refused(x, "append(" + bad + ")", () -> x.append(bad), INVALID);
        }
        for (int length = 3; length <= 60; length++) {
            c.due("append to " + length, x.append('R'), length);
        }
        c.refused(x, "append to 60", () -> x.append('R'), LIMIT);
        c.refused(x, "append(32) to 60", () -> x.append(32), INVALID);
        c.due("no change", x.count(15), 0);
    }

    private static void clear(Checks c) {
        LeanSticks x = Looks.of("RL");
        c.due("clear()", x.clear(), 0);
        Looks.type(x, "xyz");
        c.due("count(14)", x.count(14), 3);
        c.due("clear()", x.clear(), 3);
        c.due("count(14)", x.count(14), 0);
        c.due("fault(1)", x.fault(1), 0);
        c.due("the piece", Looks.text(x), "RL");
        c.due("no change", x.count(15), 1);
        Looks.type(x, "R".repeat(60));
        c.due("clear() of 60", x.clear(), 60);
    }

    private static void faultIs(Checks c, String pad, int way, int want) {
        LeanSticks x = new LeanSticks();
        Looks.type(x, pad);
        String before = Looks.all(x);
        c.due("fault(" + way + ") of " + pad, x.fault(way), want);
        c.due("the state then", Looks.all(x), before);
    }

    private static void pieceFault(Checks c) {
        for (String right : new String[] {".", "R", "L", "x", ">R", "fL", "dx", "R*", ">L*", ">fR", ">dx", "RL", "R.",
            "2(R)", "9(.)", "2(3(R)L*)", "R2(>fL)x", "2(R)3(L)", "R*L*", "2(2(2(2(x))))", "2(R*)"}) {
            faultIs(c, right, 0, NOT_FOUND);
        }
        Object[] wrong = {"", 0, "*", 0, ")", 0, "(", 0, "r", 0, "0(R)", 0, "1(R)", 0, "i", 0, "~", 0, "R**", 2, "R)", 1,
            "fR*", 2, ">dL*", 3, ">.", 1, ">>R", 1, "f>R", 1, "ff", 1, "fd", 1, "f.", 1, "f2", 1, ">2", 1, "2R", 1,
            "22", 1, "2)", 1, "2()", 2, "2(R", 3, "2(", 2, "2", 1, ">", 1, "f", 1, ">d", 2, "2(R))", 4, "2(R)*", 4,
            ".*", 1, "2(>)", 3, "2(f)", 3, "2(3(R)", 6, "2(R*", 4, "R(L)", 1, "2((R))", 2, "RX", 1, "Rl", 1, "R-", 1};
        for (int place = 0; place < wrong.length; place += 2) {
            faultIs(c, (String) wrong[place], 0, (Integer) wrong[place + 1]);
        }
        faultIs(c, "2(".repeat(30), 0, 60);
        faultIs(c, "2(".repeat(29) + "R)", 0, 60);
        faultIs(c, "R".repeat(60), 0, NOT_FOUND);
        faultIs(c, "2(".repeat(19) + "R*" + ")".repeat(19), 0, NOT_FOUND);
        faultIs(c, "R".repeat(59) + "q", 0, 59);
        LeanSticks x = Looks.of("R");
        for (int bad : new int[] {-1, 2, MIN, MAX}) {
            c.refused(x, "fault(" + bad + ")", () -> x.fault(bad), INVALID);
        }
    }

    private static void patternFault(Checks c) {
        for (String right : new String[] {"R", "L", "x", ".", "RLx.", "....", "x".repeat(60)}) {
            faultIs(c, right, 1, NOT_FOUND);
        }
        Object[] wrong = {"", 0, "*", 0, ">R", 0, "fR", 0, "R*", 1, "2(R)", 0, "RLq", 2, "R)", 1, "rL", 0, "xd", 1};
        for (int place = 0; place < wrong.length; place += 2) {
            faultIs(c, (String) wrong[place], 1, (Integer) wrong[place + 1]);
        }
        faultIs(c, "x".repeat(59) + "X", 1, 59);
    }

    private static void readsAs(Checks c, String pad, String want, int steps) {
        LeanSticks x = Looks.of("LLL", 3);
        c.due("read() of " + pad, Looks.read(x, pad), steps);
        c.due("the text of " + pad, Looks.text(x), want);
        c.due("the pad then", x.count(14), 0);
        c.due("QUICK then", x.count(11), 3);
        c.due("a change", x.count(15), 3);
    }

    private static void read(Checks c) {
        readsAs(c, ".", ".", 1);
        readsAs(c, "R>L*fx>dR.", "R>L*fx>dR.", 5);
        readsAs(c, "3(R*)L", "R*R*R*L", 4);
        readsAs(c, "R2(.2(>fLx)dR)L", "R.>fLx>fLxdR.>fLx>fLxdRL", 14);
        readsAs(c, "2(2(2(2(2(x)))))", "x".repeat(32), 32);
        readsAs(c, "9(R)9(L)9(x)5(.)", "RRRRRRRRRLLLLLLLLLxxxxxxxxx.....", 32);
        readsAs(c, ">R*R>dLL", ">R*R>dLL", 4);
        for (String pad : new String[] {"", "R)", "fR*", "2(R", ">", "R".repeat(33) + ")"}) {
            LeanSticks x = Looks.of("RL");
            Looks.type(x, pad);
            c.refused(x, "read() of " + pad, x::read, NOT_POSSIBLE);
        }
        for (String pad : new String[] {"R".repeat(33), "R".repeat(60), "3(R)5(6(L))", "4(8(x))R", "4(9(x))", "R4(8(x))",
            "2(".repeat(19) + "R" + ")".repeat(19), "9(".repeat(19) + "R*" + ")".repeat(19), "2(2(2(2(2(2(.))))))"}) {
            LeanSticks x = Looks.of("RL");
            Looks.type(x, pad);
            c.refused(x, "read() of " + pad, x::read, LIMIT);
        }
        LeanSticks x = Looks.of("RL");
        Looks.read(x, "x");
        c.due("undo()", x.undo(), 1);
        c.due("undone", Looks.text(x), "RL");
        c.due("the pad stays empty", x.count(14), 0);
    }

    private static void why(Checks c) {
        LeanSticks x = new LeanSticks();
        x.read();
        c.due("why() of an empty pad", x.why(), 1);
        c.due("read()", Looks.read(x, "R"), 1);
        c.due("why() of a read", x.why(), 0);
        Looks.read(x, FULL + "x");
        c.due("why() of too many", x.why(), 2);
        x.stroke(0, 1, false, 0);
        x.clear();
        x.fault(0);
        c.due("why() stays", x.why(), 2);
        x.save();
        Looks.read(x, "R)");
        c.due("why() of a fault", x.why(), 1);
        x.undo();
        c.due("why() after undo", x.why(), 1);
        x.restore();
        c.due("why() after restore", x.why(), 1);
        Looks.read(x, "RR");
        x.undo();
        c.due("why() of an undone read", x.why(), 0);
    }

    private static void sign(Checks c) {
        LeanSticks x = Looks.of(">fRL*.dx>Lx2(>x*)");
        String text = ">fRL*.dx>Lx>x*>x*";
        for (int place = 0; place < text.length(); place++) {
            c.due("sign(" + place + ")", x.sign(place), text.charAt(place));
        }
        c.refused(x, "sign(17)", () -> x.sign(17), NOT_FOUND);
        c.refused(x, "sign(MAX)", () -> x.sign(MAX), NOT_FOUND);
        c.refused(x, "sign(-1)", () -> x.sign(-1), INVALID);
        c.refused(x, "sign(MIN)", () -> x.sign(MIN), INVALID);
        c.due("sign(-1) without steps", new LeanSticks().sign(-1), INVALID);
        LeanSticks longest = Looks.of("4(8(>fR))");
        c.due("sign(95)", longest.sign(95), 'R');
        c.due("sign(96)", longest.sign(96), NOT_FOUND);
    }

    private static void step(Checks c) {
        LeanSticks x = Looks.of("R>L.fx>dRL*>x*");
        int[][] due = {{0, 0, 0, 1, 2}, {1, 1, 0, 1, 3}, {NOT_FOUND, 0, 0, 0, 0}, {2, 0, 1, 2, 3}, {0, 1, 2, 3, 5},
            {1, 0, 3, 2, 3}, {2, 1, 3, 2, 4}};
        for (int step = 0; step < due.length; step++) {
            for (int what = 0; what < 5; what++) {
                c.due("step(" + step + ", " + what + ")", x.step(step, what), due[step][what]);
            }
        }
        for (int bad : new int[] {-1, 7, MIN, MAX}) {
            c.refused(x, "step(" + bad + ", 0)", () -> x.step(bad, 0), INVALID);
            c.refused(x, "step(0, " + bad + ")", () -> x.step(0, bad), INVALID);
            c.refused(x, "step(2, " + bad + ")", () -> x.step(2, bad), INVALID);
        }
        c.due("step(0, 0) without steps", new LeanSticks().step(0, 0), INVALID);
    }

    private static void chosen(Checks c, String piece, int quick, String first, String best) {
        LeanSticks x = Looks.of(piece, quick);
        c.due("the first one of " + piece, Looks.hands(x, false), first);
        c.due("the best one of " + piece, Looks.hands(x, true), best);
    }

    private static void stepHands(Checks c) {
        chosen(c, "xxx", 2, "RRR", "RLR");
        chosen(c, "x.x", 2, "R-R", "R-L");
        chosen(c, "LxR", 2, "LRR", "LRR");
        chosen(c, "LxxL", 2, "LRRL", "LRRL");
        chosen(c, "RxxL", 2, "RRRL", "RLRL");
        chosen(c, "xR", 2, "RR", "LR");
        chosen(c, "x*dx", 2, "RR", "RR");
        chosen(c, "x*dL", 2, "LL", "LL");
        chosen(c, "x*fx", 1, "RR", "RL");
        chosen(c, "x*fx", 2, "RR", "RR");
        chosen(c, "x*fx", 3, "--", "--");
        chosen(c, "x*x", 3, "RL", "RL");
        chosen(c, "x*.x", 4, "R-R", "R-L");
        chosen(c, "R*dL", 1, "--", "--");
        chosen(c, "x.R*dL.", 1, "-----", "-----");
        chosen(c, "Rx.xR", 2, "RR-RR", "RR-LR");
        chosen(c, "RLRL", 4, "RLRL", "RLRL");
        chosen(c, "...", 2, "---", "---");
        chosen(c, "xfxfx", 4, "RRR", "RRR");
        chosen(c, "x*", 4, "R", "R");
        LeanSticks x = Looks.of("xLRR*dL", 2);
        c.due("none can be played", Looks.hands(x, true), "-----");
        x.cut(3, 4);
        c.due("the best one when it is shorter", Looks.hands(x, true), "RLR");
        Looks.read(x, "xxR*dL..L");
        c.due("none can be played, with rests", Looks.hands(x, true), "-------");
        x.cut(2, 6);
        c.due("the best one of two", Looks.hands(x, true), "RL");
    }

    private static void heard(Checks c) {
        LeanSticks x = Looks.of(">dRfL.R*dx");
        int[] due = {1, 1, 3, 0, 0, 1, 2, 0, 0, 0, 0, 0, 0, 0, 2, 0, 2, 1, 2, 0, 0, 0, 0};
        for (int tick = -2; tick <= 20; tick++) {
            c.due("heard(" + tick + ")", x.heard(tick), due[tick + 2]);
        }
        for (int bad : new int[] {-3, 21, MIN, MAX}) {
            c.refused(x, "heard(" + bad + ")", () -> x.heard(bad), INVALID);
        }
        LeanSticks empty = new LeanSticks();
        c.due("heard(-2) without steps", empty.heard(-2), 0);
        c.due("heard(0) without steps", empty.heard(0), 0);
        c.due("heard(1) without steps", empty.heard(1), INVALID);
        c.due("heard(-3) without steps", empty.heard(-3), INVALID);
        c.due("whatever hands play", Looks.of("R*dL").heard(2), 2);
    }

    private static void tells(Checks c, String piece, boolean over, int... byQuick) {
        for (int quick = 1; quick <= 4; quick++) {
            for (int way = 0; way <= 1; way++) {
                LeanSticks x = Looks.of(piece, quick);
                String call = "stickings(" + over + ", " + way + ") of " + piece + " with QUICK " + quick;
                c.due(call, x.stickings(over, way), byQuick[quick - 1]);
            }
        }
    }

    private static void stickings(Checks c) {
        tells(c, "", false, 1, 1, 1, 1);
        tells(c, "..", false, 1, 1, 1, 1);
        tells(c, "x", false, 2, 2, 2, 2);
        tells(c, "xx", false, 4, 4, 4, 4);
        tells(c, "x*x", false, 4, 4, 2, 2);
        tells(c, "x*fx", false, 4, 2, 0, 0);
        tells(c, "x*dx", false, 2, 2, 0, 0);
        tells(c, "x*x*", false, 4, 4, 2, 2);
        tells(c, "xfx", false, 4, 4, 4, 2);
        tells(c, "xdx", false, 4, 4, 2, 2);
        tells(c, "fxfx", false, 4, 4, 4, 2);
        tells(c, "dxdx", false, 4, 4, 2, 0);
        tells(c, "fxdx", false, 4, 4, 2, 0);
        tells(c, "dxfx", false, 4, 4, 4, 2);
        tells(c, "dx.dx", false, 4, 4, 4, 4);
        tells(c, "x*.dx", false, 4, 4, 4, 4);
        tells(c, "Rx*L", false, 2, 2, 1, 1);
        tells(c, "R*dL", false, 0, 0, 0, 0);
        tells(c, "R*dR", false, 1, 1, 0, 0);
        tells(c, "RfL", false, 1, 1, 1, 0);
        tells(c, "2(4(x))", false, 256, 256, 256, 256);
        tells(c, "3(3(x))", false, 512, 512, 512, 512);
        LeanSticks x = Looks.of("xxR");
        for (int bad : new int[] {-1, 2, MIN, MAX}) {
            c.refused(x, "stickings(false, " + bad + ")", () -> x.stickings(false, bad), INVALID);
            c.refused(x, "stickings(true, " + bad + ")", () -> x.stickings(true, bad), INVALID);
        }
    }

    private static void stickingsOver(Checks c) {
        tells(c, "", true, 1, 1, 1, 1);
        tells(c, "..", true, 1, 1, 1, 1);
        tells(c, "x", true, 2, 2, 2, 2);
        tells(c, "x*", true, 2, 2, 0, 0);
        tells(c, "fx", true, 2, 2, 2, 2);
        tells(c, "dx", true, 2, 2, 2, 0);
        tells(c, "x*.", true, 2, 2, 2, 2);
        tells(c, ".dx", true, 2, 2, 2, 2);
        tells(c, "xx*", true, 4, 4, 2, 2);
        tells(c, "dxx*", true, 2, 2, 0, 0);
        tells(c, "dLR*", true, 0, 0, 0, 0);
        tells(c, "dLR*.", true, 1, 1, 1, 1);
        tells(c, ".dLR*", true, 1, 1, 1, 1);
        tells(c, "x*x*", true, 4, 4, 2, 2);
        tells(c, "x*x*x*", true, 8, 8, 0, 0);
        tells(c, "x*x*x*x*", true, 16, 16, 2, 2);
        tells(c, "x*x*.x*", true, 8, 8, 2, 2);
        tells(c, "RL", true, 1, 1, 1, 1);
        tells(c, "fRfL", true, 1, 1, 1, 0);
        tells(c, "fRfR", true, 1, 1, 1, 1);
    }

    private static void stickingsOfMany(Checks c) {
        tells(c, FULL, false, 1000000000, 1000000000, 1000000000, 1000000000);
        tells(c, FULL, true, 1000000000, 1000000000, 1000000000, 1000000000);
        tells(c, "R.3(9(x))xx", false, 1 << 29, 1 << 29, 1 << 29, 1 << 29);
        tells(c, "R.5(6(x))", false, 1000000000, 1000000000, 1000000000, 1000000000);
        tells(c, "4(8(x*))", false, 1000000000, 1000000000, 2, 2);
        tells(c, "4(8(x*))", true, 1000000000, 1000000000, 2, 2);
        tells(c, "x*5(6(x*))", true, 1000000000, 1000000000, 0, 0);
        tells(c, "4(8(R))", true, 1, 1, 1, 1);
        tells(c, "4(6(x)..)", true, 1 << 24, 1 << 24, 1 << 24, 1 << 24);
    }

    private static void clash(Checks c) {
        Object[] due = {"R*dL", 1, 1, "R*dR", 2, NOT_FOUND, "R*dR", 3, 1, "R.R*fL", 2, 3, "R.R*fL", 1, NOT_FOUND,
            "RLfRfL", 4, 2, "RLRfL", 4, 3, "RLfRfL", 3, NOT_FOUND, "LRfL", 4, 2, "R*.dL", 4, NOT_FOUND, "R*R*", 3, 1, "L*L*", 2, NOT_FOUND,
            "R*dLR*dL", 1, 1, "", 4, NOT_FOUND, ".", 4, NOT_FOUND, "R*", 4, NOT_FOUND, "x", 2, NOT_POSSIBLE,
            "R*dLx", 1, NOT_POSSIBLE, "dRdR", 4, 1, "dRdR", 3, NOT_FOUND, "dLR*", 1, NOT_FOUND};
        for (int place = 0; place < due.length; place += 3) {
            LeanSticks x = Looks.of((String) due[place], (Integer) due[place + 1]);
            String before = Looks.all(x);
            c.due("clash() of " + due[place] + " with QUICK " + due[place + 1], x.clash(), (Integer) due[place + 2]);
            c.due("the state then", Looks.all(x), before);
        }
    }

    private static void count(Checks c) {
        LeanSticks x = Looks.of("RR>fL..>xdxdRL*>R*x*.", 3);
        Looks.type(x, "abcd");
        int[] due = {12, 3, 4, 2, 3, 3, 1, 2, 3, 17, 29, 3, 6, 21, 4, 2};
        for (int what = 0; what < due.length; what++) {
            c.due("count(" + what + ")", x.count(what), due[what]);
        }
        for (int bad : new int[] {-1, 16, MIN, MAX}) {
            c.refused(x, "count(" + bad + ")", () -> x.count(bad), INVALID);
        }
        LeanSticks all = Looks.of("4(8(>fL))");
        c.due("accents of all", all.count(5), 32);
        c.due("flams of all", all.count(6), 32);
        c.due("left hands of all", all.count(3), 32);
        all.cut(1, 31);
        int[] left = {1, 0, 0, 1, 0, 1, 1, 0, 0, 2, 4, 2, 1, 3, 0, 2};
        for (int what = 0; what < left.length; what++) {
            c.due("what is cut off is not counted: count(" + what + ")", all.count(what), left[what]);
        }
        c.due("the longest row ahead", Looks.of("RLx.RR").count(12), 3);
        c.due("the longest row behind", Looks.of("R.RR").count(12), 2);
        c.due("the longest row of rests", Looks.of("..").count(12), 0);
        c.due("the longest row of 32", Looks.of(FULL).count(12), 32);
        c.due("the longest text", Looks.of("4(8(>dR))").count(13), 96);
        c.due("the most blows", Looks.of("4(8(>dR))").count(9), 96);
        c.due("the most forces", Looks.of("4(8(>dR))").count(10), 160);
    }

    private static void rightIs(Checks c, String piece, double first, double best) {
        LeanSticks x = Looks.of(piece);
        String before = Looks.all(x);
        c.due("right(false) of " + piece, x.right(false), first);
        c.due("right(true) of " + piece, x.right(true), best);
        c.due("the state then", Looks.all(x), before);
    }

    private static void right(Checks c) {
        rightIs(c, "", -1.0, -1.0);
        rightIs(c, "...", -1.0, -1.0);
        rightIs(c, "xR*dL", -1.0, -1.0);
        rightIs(c, "R", 1.0, 1.0);
        rightIs(c, "L", 0.0, 0.0);
        rightIs(c, "fR", 2.0 / 3.0, 2.0 / 3.0);
        rightIs(c, ">dL", 2.0 / 5.0, 2.0 / 5.0);
        rightIs(c, ">L*.R*", 3.0 / 7.0, 3.0 / 7.0);
        rightIs(c, "x.x>x", 1.0, 5.0 / 7.0);
        rightIs(c, "fxdx", 4.0 / 7.0, 4.0 / 7.0);
    }

    private static void comes(Checks c, String piece, String pattern, int want) {
        LeanSticks x = Looks.of(piece);
        Looks.type(x, pattern);
        String before = Looks.all(x);
        c.due("patterns() of " + pattern + " in " + piece, x.patterns(), want);
        c.due("the state then", Looks.all(x), before);
    }

    private static void patterns(Checks c) {
        comes(c, "RL.RL", "RL", 2);
        comes(c, "RL.RL", "x", 4);
        comes(c, "RL.RL", ".", 1);
        comes(c, "RL.RL", "L.R", 1);
        comes(c, "RL.RL", "x.", 1);
        comes(c, "RL.RL", ".x", 1);
        comes(c, "RL.RL", "LR", 0);
        comes(c, "RRR", "RR", 2);
        comes(c, "RRR", "RRR", 1);
        comes(c, "RRR", "RRRR", 0);
        comes(c, "xxxx", "RL", 2);
        comes(c, "xxxx", "LR", 1);
        comes(c, "xxxx", "RR", 0);
        comes(c, "x*dx", "RR", 1);
        comes(c, ">fRdL.", "RL.", 1);
        comes(c, "", "R", 0);
        comes(c, "R", "x".repeat(60), 0);
        comes(c, FULL, "x".repeat(32), 1);
        comes(c, "R", "", NOT_POSSIBLE);
        comes(c, "R", "R*", NOT_POSSIBLE);
        comes(c, "R", ">R", NOT_POSSIBLE);
        comes(c, "R*dL", "R", NOT_POSSIBLE);
        comes(c, "R*dL", ".", NOT_POSSIBLE);
    }

    private static void ifStroke(Checks c) {
        LeanSticks x = Looks.of("x*>xx");
        String before = Looks.all(x);
        c.due("a drag: stickings", x.ifStroke(1, 2, 2, 0), 4);
        c.due("a drag: over and over", x.ifStroke(1, 2, 2, 1), 4);
        c.due("a drag: repeated hands", x.ifStroke(1, 2, 2, 2), 1);
        c.due("the left: stickings", x.ifStroke(1, 1, 0, 0), 4);
        c.due("the left: repeated hands", x.ifStroke(1, 1, 0, 2), 0);
        c.due("the state then", Looks.all(x), before);
        LeanSticks y = Looks.of("R*.L");
        c.due("a rest becomes a stroke", y.ifStroke(1, 2, 0, 0), 2);
        c.due("that repeats a hand", y.ifStroke(1, 2, 0, 2), 1);
        c.due("that clashes", y.ifStroke(1, 1, 2, 0), 0);
        c.due("that clashes: the best", y.ifStroke(1, 1, 2, 2), NOT_FOUND);
        c.due("that clashes: over and over", y.ifStroke(1, 1, 2, 1), 0);
        LeanSticks z = Looks.of("dLR");
        c.due("clashes over and over only", z.ifStroke(1, 0, 3, 0), 1);
        c.due("clashes over and over", z.ifStroke(1, 0, 3, 1), 0);
        LeanSticks written = new LeanSticks();
        written.stroke(0, 2, false, 3);
        written.stroke(1, 1, true, 0);
        written.set(3);
        c.due("with the QUICK that is set", written.ifStroke(1, 2, 1, 0), 0);
        c.due("of the steps that there are", written.ifStroke(1, 2, 0, 0), 2);
        c.due("over and over", written.ifStroke(0, 2, 0, 1), 2);
        written.set(1);
        c.due("with another QUICK", written.ifStroke(1, 2, 1, 0), 4);
        c.due("many", Looks.of("R4(7(x))xxx").ifStroke(0, 2, 0, 1), 1000000000);
        c.due("repeated across rests", Looks.of("R..R.x").ifStroke(5, 0, 3, 2), 2);
        ifStrokeRefused(c, x);
    }

    private static void ifStrokeRefused(Checks c, LeanSticks x) {
        for (int bad : new int[] {-1, 3, MIN, MAX}) {
            c.refused(x, "ifStroke at " + bad, () -> x.ifStroke(bad, 0, 0, 0), INVALID);
            c.refused(x, "ifStroke of hand " + bad, () -> x.ifStroke(0, bad, 0, 0), INVALID);
            c.refused(x, "ifStroke for " + bad, () -> x.ifStroke(0, 0, 0, bad), INVALID);
        }
        for (int bad : new int[] {-1, 4, MIN, MAX}) {
            c.refused(x, "ifStroke with ornament " + bad, () -> x.ifStroke(0, 0, bad, 0), INVALID);
        }
        c.due("ifStroke without steps", new LeanSticks().ifStroke(0, 0, 0, 0), INVALID);
        LeanSticks full = Looks.of(FULL);
        c.refused(full, "ifStroke(32) of 32", () -> full.ifStroke(32, 0, 0, 0), INVALID);
    }

    private static void quickest(Checks c) {
        Object[] due = {"", 4, "..", 4, "xx", 4, "R*dL", NOT_FOUND, "x*dx", 2, "R*fL", 1, "x*fx", 2, "RfL", 3, "xfx", 4,
            "R*R", 2, "R*L", 4, "dRdR", 3, "x*x*x*", 4, "dx", 4};
        for (int place = 0; place < due.length; place += 2) {
            for (int quick = 1; quick <= 4; quick++) {
                LeanSticks x = Looks.of((String) due[place], quick);
                String before = Looks.all(x);
                c.due("quickest() of " + due[place], x.quickest(), (Integer) due[place + 1]);
                c.due("the state then", Looks.all(x), before);
            }
        }
    }

    private static void quickestOfWritten(Checks c) {
        LeanSticks x = new LeanSticks();
        x.stroke(0, 0, false, 3);
        c.due("quickest() of one", x.quickest(), 4);
        x.stroke(1, 0, false, 0);
        c.due("quickest() of two", x.quickest(), 2);
        x.stroke(1, 1, false, 1);
        c.due("quickest() of a flam", x.quickest(), 1);
        x.stroke(1, 1, false, 2);
        c.due("quickest() of a drag", x.quickest(), NOT_FOUND);
        x.undo();
        c.due("quickest() of a flam again", x.quickest(), 1);
        c.due("QUICK stays", x.count(11), 2);
    }

    private static void undo(Checks c) {
        LeanSticks x = new LeanSticks();
        c.refused(x, "undo() of nothing", x::undo, NOT_POSSIBLE);
        x.stroke(0, 0, false, 0);
        x.rest(1);
        x.set(4);
        x.put(0, 1);
        c.due("four states", x.count(15), 4);
        Looks.type(x, "xL");
        c.due("undo() of put", x.undo(), 3);
        c.due("the text", Looks.text(x), "R.");
        c.due("the pad stays", x.count(14), 2);
        c.due("undo() of set", x.undo(), 2);
        c.due("QUICK", x.count(11), 2);
        c.due("undo() of rest", x.undo(), 1);
        c.due("undo() of stroke", x.undo(), 0);
        c.due("no steps", x.count(0), 0);
        c.refused(x, "undo() of all", x::undo, NOT_POSSIBLE);
        for (int step = 0; step < 7; step++) {
            x.stroke(step, 0, false, 0);
        }
        c.due("the oldest are dropped", x.count(15), 4);
        for (int left = 3; left >= 0; left--) {
            c.due("undo()", x.undo(), left);
            c.due("steps", x.count(0), 3 + left);
        }
        c.refused(x, "undo() of the dropped", x::undo, NOT_POSSIBLE);
        everyChangeIsUndone(c);
    }

    private static void everyChangeIsUndone(Checks c) {
        LeanSticks x = Looks.of("fR.xdL");
        x.save();
        x.lean(true);
        String before = Looks.text(x);
        x.cut(0, 1);
        x.mirror();
        x.turn(1);
        x.decide(true);
        x.undo();
        x.undo();
        x.undo();
        c.due("undo() of cut", x.undo(), 0);
        c.due("the text", Looks.text(x), before);
        x.restore();
        c.due("undo() of restore", x.undo(), 0);
        c.due("the text again", Looks.text(x), before);
        c.due("the snapshot stays", x.restore(), 4);
    }

    private static void save(Checks c) {
        LeanSticks x = new LeanSticks();
        c.due("save() without steps", x.save(), 0);
        x.stroke(0, 0, true, 1);
        c.due("restore()", x.restore(), 0);
        c.due("no steps", x.count(0), 0);
        Looks.read(x, "RLfx");
        x.set(4);
        c.due("save()", x.save(), 3);
        c.due("no change", x.count(15), 4);
        Looks.read(x, "x");
        x.set(1);
        c.due("save() in its place", x.save(), 1);
        x.cut(0, 0);
        x.set(3);
        c.due("restore()", x.restore(), 1);
        c.due("QUICK", x.count(11), 1);
        c.due("the text", Looks.text(x), "x");
    }

    private static void restore(Checks c) {
        LeanSticks x = Looks.of("R");
        c.refused(x, "restore() without snapshot", x::restore, NOT_POSSIBLE);
        Looks.read(x, ">fR.x*");
        x.set(3);
        x.save();
        x.undo();
        x.undo();
        Looks.type(x, "R)");
        x.read();
        c.due("restore()", x.restore(), 3);
        c.due("the text", Looks.text(x), ">fR.x*");
        c.due("QUICK", x.count(11), 3);
        c.due("the pad stays", x.count(14), 2);
        c.due("why() stays", x.why(), 1);
        c.due("a change", x.count(15), 2);
        c.due("restore() again", x.restore(), 3);
        c.due("a change again", x.count(15), 3);
        c.due("undo()", x.undo(), 2);
        c.due("undo()", x.undo(), 1);
        c.due("the text before", Looks.text(x), "R");
        c.due("QUICK before", x.count(11), 2);
        x.cut(0, 0);
        c.due("restore() once more", x.restore(), 3);
    }
}
