/** The promises 1 to 10: each sentence that names an edge has a test of its own. */
public final class StepEdgeTests {
    private static final int INVALID = LeanSticks.INVALID_ARGUMENT;
    private static final int NOT_POSSIBLE = LeanSticks.NOT_POSSIBLE;
    private static final int LIMIT = LeanSticks.LIMIT_REACHED;
    private static final int NOT_FOUND = LeanSticks.NOT_FOUND;
    private static final int MIN = Integer.MIN_VALUE;
    private static final int MAX = Integer.MAX_VALUE;
    private static final String FULL = Samples.FULL;
    /** 31 steps. */
    private static final String NEARLY_FULL = "R5(6(x))";

    public static void main(String[] args) {
        Checks checks = new Checks();
        newObject(checks);
        stroke(checks);
        strokeRefused(checks);
        rest(checks);
        put(checks);
        cut(checks);
        mirror(checks);
        turn(checks);
        lean(checks);
        set(checks);
        decide(checks);
        checks.end();
    }

    private static void newObject(Checks checks) {
        checks.test("promise 1: a piece without steps", c -> {
            LeanSticks x = new LeanSticks();
            c.due("count(0)", x.count(0), 0);
            c.due("step(0, 0)", x.step(0, 0), INVALID);
            c.due("sign(0)", x.sign(0), NOT_FOUND);
        });
        checks.test("promise 1: QUICK at first 2", c -> c.due("count(11)", new LeanSticks().count(11), 2));
        checks.test("promise 1: the pad is initially empty", c -> {
            c.due("count(14)", new LeanSticks().count(14), 0);
            c.due("fault(0)", new LeanSticks().fault(0), 0);
            c.due("fault(1)", new LeanSticks().fault(1), 0);
        });
        checks.test("promise 1: no history", c -> {
            c.due("count(15)", new LeanSticks().count(15), 0);
            c.due("undo()", new LeanSticks().undo(), NOT_POSSIBLE);
        });
        checks.test("promise 1: no snapshot", c -> c.due("restore()", new LeanSticks().restore(), NOT_POSSIBLE));
        checks.test("promise 1: no read was refused", c -> c.due("why()", new LeanSticks().why(), 0));
        checks.test("promise 1: each object is for itself", c -> {
            LeanSticks one = Samples.some();
            LeanSticks other = new LeanSticks();
            other.stroke(0, 1, true, 2);
            other.save();
            c.due("everything of one", Looks.everything(one), Looks.everything(Samples.some()));
            c.due("the text of the other", Looks.text(other), ">dL");
        });
    }

    private static void writes(Checks c, String piece, int step, int hand, boolean accented, int ornament, String want) {
        LeanSticks x = Looks.of(piece);
        int due = step == x.count(0) ? step + 1 : x.count(0);
        String call = "stroke(" + step + ", " + hand + ", " + accented + ", " + ornament + ") in '" + piece + "'";
        c.due(call, x.stroke(step, hand, accented, ornament), due);
        c.due("the text after " + call, Looks.text(x), want);
    }

    private static void stroke(Checks checks) {
        checks.test("promise 2: adds one to a piece without steps", c -> writes(c, "", 0, 1, false, 0, "L"));
        checks.test("promise 2: the first step", c -> writes(c, ".R.", 0, 1, false, 0, "LR."));
        checks.test("promise 2: the last step", c -> writes(c, ".R.", 2, 1, false, 0, ".RL"));
        checks.test("promise 2: the number of steps adds one", c -> writes(c, ".R.", 3, 1, false, 0, ".R.L"));
        checks.test("promise 2: the 32nd step", c -> {
            LeanSticks x = Looks.of(NEARLY_FULL);
            c.due("stroke(31)", x.stroke(31, 1, false, 0), 32);
            c.due("its hand", x.step(31, 0), 1);
        });
        checks.test("promise 2: the last step of 32", c -> {
            LeanSticks x = Looks.of(FULL);
            c.due("stroke(31)", x.stroke(31, 1, false, 0), 32);
            c.due("its hand", x.step(31, 0), 1);
        });
        checks.test("promise 2: hand 0, the least", c -> writes(c, "L", 0, 0, false, 0, "R"));
        checks.test("promise 2: hand 2, the greatest", c -> writes(c, "L", 0, 2, false, 0, "x"));
        checks.test("promise 2: accented", c -> writes(c, "R", 0, 0, true, 0, ">R"));
        checks.test("promise 2: no longer accented", c -> writes(c, ">R", 0, 0, false, 0, "R"));
        checks.test("promise 2: ornament 0, the least", c -> writes(c, "fR", 0, 0, false, 0, "R"));
        checks.test("promise 2: ornament 3, the greatest", c -> writes(c, "fR", 0, 0, false, 3, "R*"));
        checks.test("promise 2: a rest becomes a stroke", c -> writes(c, ".", 0, 2, true, 2, ">dx"));
        checks.test("promise 2: nothing of the old stroke stays", c -> writes(c, ">dx", 0, 0, false, 0, "R"));
        checks.test("promise 2: another step stays", c -> writes(c, ">dxfL", 0, 0, false, 3, "R*fL"));
        checks.test("promise 2: the same stroke again is a change", c -> {
            LeanSticks x = Looks.of("R");
            c.due("stroke(0)", x.stroke(0, 0, false, 0), 1);
            c.due("count(15)", x.count(15), 2);
        });
    }

    private static void strokeRefused(Checks checks) {
        checks.test("promise 2: step too small", c -> {
            c.keeps(Samples::some, "stroke(-1)", x -> x.stroke(-1, 0, false, 0), INVALID);
            c.keeps(Samples::some, "stroke(MIN)", x -> x.stroke(MIN, 0, false, 0), INVALID);
        });
        checks.test("promise 2: step too large", c -> {
            c.keeps(Samples::some, "stroke(7) of 6", x -> x.stroke(7, 0, false, 0), INVALID);
            c.keeps(Samples::some, "stroke(32) of 6", x -> x.stroke(32, 0, false, 0), INVALID);
            c.keeps(Samples::some, "stroke(MAX)", x -> x.stroke(MAX, 0, false, 0), INVALID);
        });
        checks.test("promise 2: step 1 of a piece without steps",
                c -> c.keeps(Samples::empty, "stroke(1)", x -> x.stroke(1, 0, false, 0), INVALID));
        checks.test("promise 2: hand too small", c -> {
            c.keeps(Samples::some, "hand -1", x -> x.stroke(0, -1, false, 0), INVALID);
            c.keeps(Samples::some, "hand MIN, one added", x -> x.stroke(6, MIN, false, 0), INVALID);
        });
        checks.test("promise 2: hand too large", c -> {
            c.keeps(Samples::some, "hand 3", x -> x.stroke(0, 3, false, 0), INVALID);
            c.keeps(Samples::some, "hand MAX, one added", x -> x.stroke(6, MAX, false, 0), INVALID);
        });
        checks.test("promise 2: ornament too small", c -> {
            c.keeps(Samples::some, "ornament -1", x -> x.stroke(0, 0, false, -1), INVALID);
            c.keeps(Samples::some, "ornament MIN, one added", x -> x.stroke(6, 0, false, MIN), INVALID);
        });
        checks.test("promise 2: ornament too large", c -> {
            c.keeps(Samples::some, "ornament 4", x -> x.stroke(0, 0, false, 4), INVALID);
            c.keeps(Samples::some, "ornament MAX, one added", x -> x.stroke(6, 0, false, MAX), INVALID);
        });
        checks.test("promise 2: LIMIT_REACHED if one would be added to 32",
                c -> c.keeps(Samples::full, "stroke(32)", x -> x.stroke(32, 0, false, 0), LIMIT));
        checks.test("promise 2: INVALID_ARGUMENT rather than LIMIT_REACHED", c -> {
            c.keeps(Samples::full, "step 33", x -> x.stroke(33, 0, false, 0), INVALID);
            c.keeps(Samples::full, "hand 3", x -> x.stroke(32, 3, false, 0), INVALID);
            c.keeps(Samples::full, "hand -1", x -> x.stroke(32, -1, false, 0), INVALID);
            c.keeps(Samples::full, "ornament 4", x -> x.stroke(32, 0, false, 4), INVALID);
            c.keeps(Samples::full, "ornament -1", x -> x.stroke(32, 0, false, -1), INVALID);
        });
    }

    private static void rests(Checks c, String piece, int step, int due, String want) {
        LeanSticks x = Looks.of(piece);
        c.due("rest(" + step + ") in '" + piece + "'", x.rest(step), due);
        c.due("the text", Looks.text(x), want);
    }

    private static void rest(Checks checks) {
        checks.test("promise 3: adds one to a piece without steps", c -> rests(c, "", 0, 1, "."));
        checks.test("promise 3: the first step", c -> rests(c, ">fRLx", 0, 3, ".Lx"));
        checks.test("promise 3: the last step", c -> rests(c, "RL>x*", 2, 3, "RL."));
        checks.test("promise 3: the number of steps adds one", c -> rests(c, "RLx", 3, 4, "RLx."));
        checks.test("promise 3: the 32nd step", c -> {
            LeanSticks x = Looks.of(NEARLY_FULL);
            c.due("rest(31)", x.rest(31), 32);
            c.due("rests", x.count(1), 1);
        });
        checks.test("promise 3: the last step of 32", c -> {
            LeanSticks x = Looks.of(FULL);
            c.due("rest(31)", x.rest(31), 32);
            c.due("its hand", x.step(31, 0), NOT_FOUND);
        });
        checks.test("promise 3: a rest again is a change", c -> {
            LeanSticks x = Looks.of(".");
            c.due("rest(0)", x.rest(0), 1);
            c.due("count(15)", x.count(15), 2);
        });
        checks.test("promise 3: step too small", c -> {
            c.keeps(Samples::some, "rest(-1)", x -> x.rest(-1), INVALID);
            c.keeps(Samples::some, "rest(MIN)", x -> x.rest(MIN), INVALID);
        });
        checks.test("promise 3: step too large", c -> {
            c.keeps(Samples::some, "rest(7) of 6", x -> x.rest(7), INVALID);
            c.keeps(Samples::some, "rest(32) of 6", x -> x.rest(32), INVALID);
            c.keeps(Samples::some, "rest(MAX)", x -> x.rest(MAX), INVALID);
            c.keeps(Samples::empty, "rest(1) without steps", x -> x.rest(1), INVALID);
        });
        checks.test("promise 3: LIMIT_REACHED if one would be added to 32",
                c -> c.keeps(Samples::full, "rest(32)", x -> x.rest(32), LIMIT));
        checks.test("promise 3: INVALID_ARGUMENT rather than LIMIT_REACHED",
                c -> c.keeps(Samples::full, "rest(33)", x -> x.rest(33), INVALID));
    }

    private static void puts(Checks c, String piece, int step, int like, String want) {
        LeanSticks x = Looks.of(piece);
        int due = x.count(0) + 1;
        c.due("put(" + step + ", " + like + ") in '" + piece + "'", x.put(step, like), due);
        c.due("the text", Looks.text(x), want);
    }

    private static void put(Checks checks) {
        checks.test("promise 4: ahead of the first step", c -> puts(c, "R.>dL", 0, 2, ">dLR.>dL"));
        checks.test("promise 4: ahead of the last step", c -> puts(c, "R.>dL", 2, 0, "R.R>dL"));
        checks.test("promise 4: the number of steps, behind the last one", c -> puts(c, "R.>dL", 3, 0, "R.>dLR"));
        checks.test("promise 4: like the first step", c -> puts(c, "fR.L", 1, 0, "fRfR.L"));
        checks.test("promise 4: like the last step", c -> puts(c, "R.L*", 1, 2, "RL*.L*"));
        checks.test("promise 4: ahead of the very step that it is like", c -> puts(c, "RfL.", 1, 1, "RfLfL."));
        checks.test("promise 4: like a step behind the place", c -> puts(c, "RLxfR", 1, 3, "RfRLxfR"));
        checks.test("promise 4: of one step", c -> puts(c, "R", 0, 0, "RR"));
        checks.test("promise 4: like a rest", c -> puts(c, "R.", 0, 1, ".R."));
        checks.test("promise 4: the 32nd step", c -> {
            LeanSticks x = Looks.of(NEARLY_FULL);
            c.due("put(31, 0)", x.put(31, 0), 32);
            c.due("the last hand", x.step(31, 0), 0);
            x.undo();
            c.due("put(0, 30)", x.put(0, 30), 32);
            c.due("the first hand", x.step(0, 0), 2);
            c.due("the second hand", x.step(1, 0), 0);
        });
        checks.test("promise 4: step too small", c -> {
            c.keeps(Samples::some, "put(-1, 0)", x -> x.put(-1, 0), INVALID);
            c.keeps(Samples::some, "put(MIN, 0)", x -> x.put(MIN, 0), INVALID);
        });
        checks.test("promise 4: step too large", c -> {
            c.keeps(Samples::some, "put(7, 0) of 6", x -> x.put(7, 0), INVALID);
            c.keeps(Samples::some, "put(MAX, 0)", x -> x.put(MAX, 0), INVALID);
        });
        checks.test("promise 4: like too small", c -> {
            c.keeps(Samples::some, "put(0, -1)", x -> x.put(0, -1), INVALID);
            c.keeps(Samples::some, "put(0, MIN)", x -> x.put(0, MIN), INVALID);
        });
        checks.test("promise 4: like too large, there is no step behind the last one", c -> {
            c.keeps(Samples::some, "put(0, 6) of 6", x -> x.put(0, 6), INVALID);
            c.keeps(Samples::some, "put(6, 6) of 6", x -> x.put(6, 6), INVALID);
            c.keeps(Samples::some, "put(0, MAX)", x -> x.put(0, MAX), INVALID);
        });
        checks.test("promise 4: without steps there is none to be like",
                c -> c.keeps(Samples::empty, "put(0, 0)", x -> x.put(0, 0), INVALID));
        checks.test("promise 4: LIMIT_REACHED if there are 32", c -> {
            c.keeps(Samples::full, "put(0, 0)", x -> x.put(0, 0), LIMIT);
            c.keeps(Samples::full, "put(32, 31)", x -> x.put(32, 31), LIMIT);
        });
        checks.test("promise 4: INVALID_ARGUMENT rather than LIMIT_REACHED", c -> {
            c.keeps(Samples::full, "put(33, 0)", x -> x.put(33, 0), INVALID);
            c.keeps(Samples::full, "put(-1, 0)", x -> x.put(-1, 0), INVALID);
            c.keeps(Samples::full, "put(0, 32)", x -> x.put(0, 32), INVALID);
            c.keeps(Samples::full, "put(0, -1)", x -> x.put(0, -1), INVALID);
        });
    }

    private static void cuts(Checks c, String piece, int from, int to, int due, String want) {
        LeanSticks x = Looks.of(piece);
        c.due("cut(" + from + ", " + to + ") in '" + piece + "'", x.cut(from, to), due);
        c.due("the text", Looks.text(x), want);
    }

    private static void cut(Checks checks) {
        checks.test("promise 5: the first step alone", c -> cuts(c, "RL.fx", 0, 0, 3, "L.fx"));
        checks.test("promise 5: the last step alone", c -> cuts(c, "RL.fx", 3, 3, 3, "RL."));
        checks.test("promise 5: of the middle", c -> cuts(c, "RL.fx", 1, 2, 2, "Rfx"));
        checks.test("promise 5: to the last step", c -> cuts(c, "RL.fx", 1, 3, 1, "R"));
        checks.test("promise 5: all, none is left", c -> cuts(c, "RL.fx", 0, 3, 0, ""));
        checks.test("promise 5: the only step", c -> cuts(c, "R", 0, 0, 0, ""));
        checks.test("promise 5: all of 32", c -> cuts(c, FULL, 0, 31, 0, ""));
        checks.test("promise 5: the last one of 32", c -> cuts(c, FULL, 31, 31, 31, "x".repeat(31)));
        checks.test("promise 5: from too small", c -> {
            c.keeps(Samples::some, "cut(-1, 0)", x -> x.cut(-1, 0), INVALID);
            c.keeps(Samples::some, "cut(-1, -1)", x -> x.cut(-1, -1), INVALID);
            c.keeps(Samples::some, "cut(MIN, 5)", x -> x.cut(MIN, 5), INVALID);
        });
        checks.test("promise 5: from too large", c -> {
            c.keeps(Samples::some, "cut(6, 6) of 6", x -> x.cut(6, 6), INVALID);
            c.keeps(Samples::some, "cut(MAX, MAX)", x -> x.cut(MAX, MAX), INVALID);
        });
        checks.test("promise 5: to too large", c -> {
            c.keeps(Samples::some, "cut(5, 6) of 6", x -> x.cut(5, 6), INVALID);
            c.keeps(Samples::some, "cut(0, MAX)", x -> x.cut(0, MAX), INVALID);
        });
        checks.test("promise 5: to too small", c -> c.keeps(Samples::some, "cut(0, MIN)", x -> x.cut(0, MIN), INVALID));
        checks.test("promise 5: the last one ahead of the first one", c -> {
            c.keeps(Samples::some, "cut(3, 2)", x -> x.cut(3, 2), INVALID);
            c.keeps(Samples::some, "cut(5, 0)", x -> x.cut(5, 0), INVALID);
        });
        checks.test("promise 5: without steps there is none to cut",
                c -> c.keeps(Samples::empty, "cut(0, 0)", x -> x.cut(0, 0), INVALID));
    }

    private static void mirrors(Checks c, String piece, int due, String want) {
        LeanSticks x = Looks.of(piece);
        int states = x.count(15);
        c.due("mirror() of '" + piece + "'", x.mirror(), due);
        c.due("the text", Looks.text(x), want);
        c.due("a change", x.count(15), states + 1);
    }

    private static void mirror(Checks checks) {
        checks.test("promise 6: right hands become left ones", c -> mirrors(c, "R>fRR*", 3, "L>fLL*"));
        checks.test("promise 6: left hands become right ones", c -> mirrors(c, "L>dLL*", 3, "R>dRR*"));
        checks.test("promise 6: strokes of either hand stay", c -> mirrors(c, "xR>fx", 1, "xL>fx"));
        checks.test("promise 6: rests stay", c -> mirrors(c, ".R.", 1, ".L."));
        checks.test("promise 6: none has another hand", c -> mirrors(c, "x..x", 0, "x..x"));
        checks.test("promise 6: without steps", c -> mirrors(c, "", 0, ""));
        checks.test("promise 6: all of 32", c -> mirrors(c, "4(8(R))", 32, "L".repeat(32)));
    }

    private static void turns(Checks c, String piece, int steps, int due, String want) {
        LeanSticks x = Looks.of(piece);
        int states = x.count(15);
        c.due("turn(" + steps + ") of '" + piece + "'", x.turn(steps), due);
        c.due("the text", Looks.text(x), want);
        c.due("a change", x.count(15), states + 1);
    }

    private static void turn(Checks checks) {
        checks.test("promise 7: by 0", c -> turns(c, "RL.fx", 0, 0, "RL.fx"));
        checks.test("promise 7: by 1", c -> turns(c, "RL.fx", 1, 4, "L.fxR"));
        checks.test("promise 7: by all but one", c -> turns(c, "RL.fx", 3, 4, "fxRL."));
        checks.test("promise 7: by the number of steps", c -> turns(c, "RL.fx", 4, 0, "RL.fx"));
        checks.test("promise 7: steps that are as before are not counted", c -> turns(c, "RRRL", 1, 2, "RRLR"));
        checks.test("promise 7: all are as before", c -> turns(c, "R.R.R.", 2, 0, "R.R.R."));
        checks.test("promise 7: one step", c -> turns(c, "R", 1, 0, "R"));
        checks.test("promise 7: without steps by 0", c -> turns(c, "", 0, 0, ""));
        checks.test("promise 7: 32 steps by 31", c -> turns(c, "R" + "5(6(.))L", 31, 3, "LR" + ".".repeat(30)));
        checks.test("promise 7: 32 steps by 32", c -> turns(c, "R" + "5(6(.))L", 32, 0, "R" + ".".repeat(30) + "L"));
        checks.test("promise 7: of steps that were written one by one, after another piece", c -> {
            LeanSticks x = Looks.of("fL>x*x");
            x.rest(1);
            x.stroke(0, 0, true, 0);
            c.due("turn(1)", x.turn(1), 3);
            c.due("the text", Looks.text(x), ".x>R");
        });
        checks.test("promise 7: steps too small", c -> {
            c.keeps(Samples::some, "turn(-1)", x -> x.turn(-1), INVALID);
            c.keeps(Samples::some, "turn(MIN)", x -> x.turn(MIN), INVALID);
        });
        checks.test("promise 7: steps too large", c -> {
            c.keeps(Samples::some, "turn(7) of 6", x -> x.turn(7), INVALID);
            c.keeps(Samples::some, "turn(12) of 6", x -> x.turn(12), INVALID);
            c.keeps(Samples::some, "turn(MAX)", x -> x.turn(MAX), INVALID);
            c.keeps(Samples::full, "turn(33) of 32", x -> x.turn(33), INVALID);
        });
        checks.test("promise 7: without steps by 1",
                c -> c.keeps(Samples::empty, "turn(1)", x -> x.turn(1), INVALID));
    }

    private static void leans(Checks c, String piece, boolean toDrags, int due, String want) {
        LeanSticks x = Looks.of(piece);
        int states = x.count(15);
        c.due("lean(" + toDrags + ") of '" + piece + "'", x.lean(toDrags), due);
        c.due("the text", Looks.text(x), want);
        c.due("a change", x.count(15), states + 1);
    }

    private static void lean(Checks checks) {
        checks.test("promise 8: flams become drags", c -> leans(c, "fR>fLfx", true, 3, "dR>dLdx"));
        checks.test("promise 8: drags become flams", c -> leans(c, "dR>dLdx", false, 3, "fR>fLfx"));
        checks.test("promise 8: drags stay drags", c -> leans(c, "fRdL", true, 1, "dRdL"));
        checks.test("promise 8: flams stay flams", c -> leans(c, "fRdL", false, 1, "fRfL"));
        checks.test("promise 8: others stay, to drags", c -> leans(c, "R>L*.x", true, 0, "R>L*.x"));
        checks.test("promise 8: others stay, to flams", c -> leans(c, "R>L*.x", false, 0, "R>L*.x"));
        checks.test("promise 8: without steps", c -> {
            leans(c, "", true, 0, "");
            leans(c, "", false, 0, "");
        });
        checks.test("promise 8: all of 32", c -> leans(c, "4(8(>fL))", true, 32, ">dL".repeat(32)));
    }

    private static void sets(Checks c, int before, int quick) {
        LeanSticks x = Looks.of("R", before);
        c.due("set(" + quick + ")", x.set(quick), before);
        c.due("count(11)", x.count(11), quick);
        c.due("a change", x.count(15), 3);
        c.due("the text", Looks.text(x), "R");
    }

    private static void set(Checks checks) {
        checks.test("promise 9: 1, the least", c -> sets(c, 3, 1));
        checks.test("promise 9: 4, the greatest", c -> sets(c, 3, 4));
        checks.test("promise 9: the same again", c -> sets(c, 3, 3));
        checks.test("promise 9: the value before is at first 2", c -> c.due("set(4)", new LeanSticks().set(4), 2));
        checks.test("promise 9: too small", c -> {
            c.keeps(Samples::some, "set(0)", x -> x.set(0), INVALID);
            c.keeps(Samples::some, "set(-1)", x -> x.set(-1), INVALID);
            c.keeps(Samples::some, "set(MIN)", x -> x.set(MIN), INVALID);
        });
        checks.test("promise 9: too large", c -> {
            c.keeps(Samples::some, "set(5)", x -> x.set(5), INVALID);
            c.keeps(Samples::some, "set(MAX)", x -> x.set(MAX), INVALID);
        });
    }

    private static void decides(Checks c, String piece, int quick, boolean best, int due, String want) {
        LeanSticks x = Looks.of(piece, quick);
        int states = x.count(15);
        c.due("decide(" + best + ") of '" + piece + "'", x.decide(best), due);
        c.due("the text", Looks.text(x), want);
        c.due("a change", x.count(15), states + 1);
    }

    private static void decide(Checks checks) {
        checks.test("promise 10: the hands of the first one", c -> decides(c, "xx.>fxLx*", 2, false, 4, "RR.>fRLR*"));
        checks.test("promise 10: the hands of the best one", c -> decides(c, "xx.>fxRx*", 2, true, 4, "LR.>fLRL*"));
        checks.test("promise 10: no stroke of either hand", c -> {
            decides(c, "R>fL.", 2, true, 0, "R>fL.");
            decides(c, "R>fL.", 2, false, 0, "R>fL.");
        });
        checks.test("promise 10: rests alone", c -> decides(c, "..", 4, true, 0, ".."));
        checks.test("promise 10: without steps", c -> decides(c, "", 4, false, 0, ""));
        checks.test("promise 10: all of 32", c -> {
            decides(c, FULL, 4, false, 32, "R".repeat(32));
            decides(c, FULL, 4, true, 32, "RL".repeat(16));
        });
        checks.test("promise 10: with the QUICK that is set", c -> {
            decides(c, "x*x", 2, false, 2, "R*R");
            decides(c, "x*x", 3, false, 2, "R*L");
        });
        checks.test("promise 10: over and over it need not be playable", c -> decides(c, "x*", 4, true, 1, "R*"));
        checks.test("promise 10: NOT_POSSIBLE if none can be played", c -> {
            c.keeps(Samples::stuck, "decide(true)", x -> x.decide(true), NOT_POSSIBLE);
            c.keeps(Samples::stuck, "decide(false)", x -> x.decide(false), NOT_POSSIBLE);
        });
        checks.test("promise 10: NOT_POSSIBLE also if no stroke is of either hand", c -> {
            LeanSticks x = Looks.of("R*dL");
            c.refused(x, "decide(false)", () -> x.decide(false), NOT_POSSIBLE);
            c.refused(x, "decide(true)", () -> x.decide(true), NOT_POSSIBLE);
        });
    }
}
