/** The changes and errors of the terms, and the promises 26 to 28: each sentence that names an edge has a test. */
public final class HistoryEdgeTests {
    private static final int INVALID = LeanSticks.INVALID_ARGUMENT;
    private static final int NOT_POSSIBLE = LeanSticks.NOT_POSSIBLE;
    private static final int MIN = Integer.MIN_VALUE;
    private static final int MAX = Integer.MAX_VALUE;

    public static void main(String[] args) {
        Checks checks = new Checks();
        changes(checks);
        changesOfNothing(checks);
        noChanges(checks);
        kept(checks);
        undo(checks);
        save(checks);
        restore(checks);
        manyCalls(checks);
        checks.end();
    }

    private interface Change {
        int run(LeanSticks x);
    }

    /** Two states are in the history before, and a snapshot and a pad are there. */
    private static LeanSticks withRoom() {
        LeanSticks x = Looks.of(".");
        x.save();
        Looks.read(x, "RfL.x*");
        Looks.type(x, "L>x*");
        return x;
    }

    /** Without a difference: each of the calls leaves the piece as it is. */
    private static LeanSticks settled() {
        LeanSticks x = Looks.of("R*.R*.");
        x.set(3);
        x.save();
        Looks.type(x, "2(R*.)");
        return x;
    }

    private static void isChange(Checks checks, String call, Change change, String piece, int quick) {
        checks.test("changes: " + call + " is a change, and is undone", c -> {
            LeanSticks x = withRoom();
            change.run(x);
            c.due("the text", Looks.text(x), piece);
            c.due("QUICK", x.count(11), quick);
            c.due("states", x.count(15), 3);
            c.due("undo()", x.undo(), 2);
            c.due("the text before", Looks.text(x), "RfL.x*");
            c.due("QUICK before", x.count(11), 2);
            c.due("undo() of the read before", x.undo(), 1);
            c.due("the text before that", Looks.text(x), ".");
        });
    }

    private static void changes(Checks checks) {
        isChange(checks, "stroke", x -> x.stroke(2, 1, true, 1), "RfL>fLx*", 2);
        isChange(checks, "rest", x -> x.rest(4), "RfL.x*.", 2);
        isChange(checks, "put", x -> x.put(0, 3), "x*RfL.x*", 2);
        isChange(checks, "cut", x -> x.cut(0, 2), "x*", 2);
        isChange(checks, "mirror", LeanSticks::mirror, "LfR.x*", 2);
        isChange(checks, "turn", x -> x.turn(1), "fL.x*R", 2);
        isChange(checks, "lean", x -> x.lean(true), "RdL.x*", 2);
        isChange(checks, "set", x -> x.set(3), "RfL.x*", 3);
        isChange(checks, "read", LeanSticks::read, "L>x*", 2);
        isChange(checks, "decide", x -> x.decide(true), "RfL.R*", 2);
        isChange(checks, "restore", LeanSticks::restore, ".", 2);
    }

    private static void isChangeOfNothing(Checks checks, String call, Change change) {
        checks.test("changes: " + call + " is a change also if nothing is different then", c -> {
            LeanSticks x = settled();
            change.run(x);
            c.due("the text", Looks.text(x), "R*.R*.");
            c.due("QUICK", x.count(11), 3);
            c.due("states", x.count(15), 3);
            c.due("undo()", x.undo(), 2);
            c.due("the text then", Looks.text(x), "R*.R*.");
        });
    }

    private static void changesOfNothing(Checks checks) {
        isChangeOfNothing(checks, "stroke", x -> x.stroke(2, 0, false, 3));
        isChangeOfNothing(checks, "rest", x -> x.rest(1));
        isChangeOfNothing(checks, "turn", x -> x.turn(2));
        isChangeOfNothing(checks, "turn by 0", x -> x.turn(0));
        isChangeOfNothing(checks, "turn by all", x -> x.turn(4));
        isChangeOfNothing(checks, "lean to drags", x -> x.lean(true));
        isChangeOfNothing(checks, "lean to flams", x -> x.lean(false));
        isChangeOfNothing(checks, "set", x -> x.set(3));
        isChangeOfNothing(checks, "read", LeanSticks::read);
        isChangeOfNothing(checks, "decide", x -> x.decide(false));
        isChangeOfNothing(checks, "restore", LeanSticks::restore);
        checks.test("changes: mirror is a change also if nothing is different then", c -> {
            LeanSticks x = Looks.of("x.");
            c.due("mirror()", x.mirror(), 0);
            c.due("states", x.count(15), 2);
        });
    }

    private static void isNoChange(Checks checks, String call, Change change) {
        checks.test("changes: " + call + " is none", c -> {
            LeanSticks x = withRoom();
            change.run(x);
            c.due("states", x.count(15), 2);
            c.due("undo()", x.undo(), 1);
            c.due("the text of the change before", Looks.text(x), ".");
        });
    }

    private static void noChanges(Checks checks) {
        isNoChange(checks, "append", x -> x.append('R'));
        isNoChange(checks, "clear", LeanSticks::clear);
        isNoChange(checks, "fault", x -> x.fault(0));
        isNoChange(checks, "save", LeanSticks::save);
        isNoChange(checks, "quickest", LeanSticks::quickest);
        isNoChange(checks, "ifStroke", x -> x.ifStroke(0, 1, 0, 0));
        isNoChange(checks, "stickings", x -> x.stickings(true, 1));
        isNoChange(checks, "patterns", LeanSticks::patterns);
        isNoChange(checks, "a refused read", x -> x.append('(') + x.read());
        isNoChange(checks, "a refused stroke", x -> x.stroke(9, 0, false, 0));
        isNoChange(checks, "a refused put", x -> x.put(0, 9));
        isNoChange(checks, "a refused cut", x -> x.cut(1, 0));
        isNoChange(checks, "a refused turn", x -> x.turn(9));
        isNoChange(checks, "a refused set", x -> x.set(9));
    }

    private static void kept(Checks checks) {
        checks.test("changes: at most 4 states are kept", c -> {
            LeanSticks x = new LeanSticks();
            for (int change = 1; change <= 9; change++) {
                x.rest(change - 1);
                c.due("states after change " + change, x.count(15), Math.min(change, 4));
            }
        });
        checks.test("changes: of 4 states none is dropped", c -> {
            LeanSticks x = new LeanSticks();
            for (int change = 1; change <= 4; change++) {
                x.rest(change - 1);
            }
            for (int left = 3; left >= 0; left--) {
                c.due("undo()", x.undo(), left);
                c.due("steps", x.count(0), left);
            }
            c.due("undo() of nothing", x.undo(), NOT_POSSIBLE);
        });
        checks.test("changes: of 5 states the oldest one is dropped", c -> {
            LeanSticks x = new LeanSticks();
            for (int change = 1; change <= 5; change++) {
                x.rest(change - 1);
            }
            for (int left = 3; left >= 0; left--) {
                c.due("undo()", x.undo(), left);
                c.due("steps", x.count(0), left + 1);
            }
            c.due("undo() of the dropped", x.undo(), NOT_POSSIBLE);
            c.due("steps", x.count(0), 1);
        });
        checks.test("changes: states are dropped again when there were undone ones between", c -> {
            LeanSticks x = new LeanSticks();
            for (int change = 1; change <= 6; change++) {
                x.stroke(change - 1, 0, false, 0);
            }
            x.undo();
            x.undo();
            for (int change = 5; change <= 7; change++) {
                x.stroke(change - 1, 1, false, 0);
            }
            c.due("the text", Looks.text(x), "RRRRLLL");
            String[] due = {"RRRRLL", "RRRRL", "RRRR", "RRR"};
            for (String text : due) {
                x.undo();
                c.due("the text then", Looks.text(x), text);
            }
            c.due("undo() of the dropped", x.undo(), NOT_POSSIBLE);
        });
        checks.test("changes: a state is not touched by later changes of the piece", c -> {
            LeanSticks x = Looks.of("RL");
            x.rest(0);
            x.stroke(1, 2, true, 3);
            x.cut(0, 1);
            x.undo();
            c.due("the text", Looks.text(x), ".>x*");
            x.undo();
            c.due("the text", Looks.text(x), ".L");
            x.undo();
            c.due("the text", Looks.text(x), "RL");
        });
    }

    private static void undo(Checks checks) {
        checks.test("promise 26: NOT_POSSIBLE if the history has none", c -> {
            c.due("undo() of a new object", new LeanSticks().undo(), NOT_POSSIBLE);
            c.keeps(HistoryEdgeTests::undone, "undo() of all undone", LeanSticks::undo, NOT_POSSIBLE);
        });
        checks.test("promise 26: the last state, none is left", c -> {
            LeanSticks x = Looks.of("R");
            c.due("undo()", x.undo(), 0);
            c.due("steps", x.count(0), 0);
            c.due("states", x.count(15), 0);
        });
        checks.test("promise 26: an undo is not undone", c -> {
            LeanSticks x = Looks.of("R");
            Looks.read(x, "L");
            c.due("undo()", x.undo(), 1);
            c.due("undo() again", x.undo(), 0);
            c.due("steps", x.count(0), 0);
        });
        checks.test("promise 26: the pad stays", c -> {
            LeanSticks x = Looks.of("R");
            Looks.type(x, "L.");
            x.undo();
            c.due("count(14)", x.count(14), 2);
            c.due("read()", x.read(), 2);
            c.due("the text", Looks.text(x), "L.");
        });
        checks.test("promise 26: the pad of an undone read stays empty", c -> {
            LeanSticks x = Looks.of("RL");
            x.undo();
            c.due("count(14)", x.count(14), 0);
        });
        checks.test("promise 26: the snapshot stays", c -> {
            LeanSticks x = Looks.of("R");
            Looks.read(x, "L");
            x.save();
            x.undo();
            x.undo();
            c.due("restore()", x.restore(), 1);
            c.due("the text", Looks.text(x), "L");
        });
        checks.test("promise 26: why() stays", c -> {
            LeanSticks x = Looks.of("R");
            Looks.read(x, "R".repeat(33));
            x.undo();
            c.due("why()", x.why(), 2);
            Looks.read(x, "R");
            x.undo();
            c.due("why() of an undone read", x.why(), 0);
        });
        checks.test("promise 26: QUICK is as before", c -> {
            LeanSticks x = Looks.of("R", 4);
            x.set(1);
            x.undo();
            c.due("count(11)", x.count(11), 4);
            x.undo();
            c.due("count(11)", x.count(11), 2);
        });
        checks.test("promise 26: 32 steps that were cut out come back", c -> {
            LeanSticks x = Looks.of("4(8(>dL))");
            x.cut(0, 31);
            x.undo();
            c.due("the text", Looks.text(x), ">dL".repeat(32));
        });
    }

    private static LeanSticks undone() {
        LeanSticks x = Samples.some();
        for (int time = 0; time < 4; time++) {
            x.undo();
        }
        return x;
    }

    private static void save(Checks checks) {
        checks.test("promise 27: without steps", c -> {
            LeanSticks x = Samples.empty();
            c.due("save()", x.save(), 0);
            x.rest(0);
            c.due("restore()", x.restore(), 0);
            c.due("steps", x.count(0), 0);
        });
        checks.test("promise 27: of 32 steps", c -> {
            LeanSticks x = Looks.of("4(8(>fx))");
            c.due("save()", x.save(), 32);
            x.cut(0, 31);
            c.due("restore()", x.restore(), 32);
            c.due("the text", Looks.text(x), ">fx".repeat(32));
        });
        checks.test("promise 27: in place of the one that was", c -> {
            LeanSticks x = Looks.of("RLR", 4);
            x.save();
            Looks.read(x, "x");
            x.set(1);
            c.due("save()", x.save(), 1);
            Looks.read(x, "LL");
            c.due("restore()", x.restore(), 1);
            c.due("the text", Looks.text(x), "x");
            c.due("QUICK", x.count(11), 1);
        });
        checks.test("promise 27: all but the snapshot stays", c -> {
            LeanSticks x = withRoom();
            c.due("save()", x.save(), 4);
            LeanSticks other = withRoom();
            c.due("all", Looks.all(x), Looks.all(other));
            c.due("undo()", x.undo(), other.undo());
            c.due("all after undo()", Looks.all(x), Looks.all(other));
        });
        checks.test("promise 27: the snapshot is not touched by later changes of the piece", c -> {
            LeanSticks x = Looks.of("RL");
            x.save();
            x.rest(0);
            x.stroke(1, 2, true, 3);
            x.restore();
            c.due("the text", Looks.text(x), "RL");
        });
        checks.test("promise 27: the pad, the history and why() are not in it", c -> {
            LeanSticks x = Looks.of("RL");
            Looks.type(x, "LR");
            x.save();
            x.mirror();
            Looks.read(x, "L)");
            c.due("restore()", x.restore(), 2);
            c.due("the pad", x.count(14), 2);
            c.due("its fault", x.fault(0), 1);
            c.due("states", x.count(15), 3);
            c.due("why()", x.why(), 1);
        });
    }

    private static void restore(Checks checks) {
        checks.test("promise 28: NOT_POSSIBLE if there is none", c -> {
            LeanSticks x = Looks.of("R");
            c.refused(x, "restore()", x::restore, NOT_POSSIBLE);
            x.undo();
            c.refused(x, "restore() without steps", x::restore, NOT_POSSIBLE);
        });
        checks.test("promise 28: the snapshot stays", c -> {
            LeanSticks x = Samples.some();
            for (int time = 0; time < 3; time++) {
                c.due("restore()", x.restore(), 2);
                c.due("the text", Looks.text(x), "R>x");
                c.due("QUICK", x.count(11), 4);
                x.rest(0);
                x.set(1);
            }
        });
        checks.test("promise 28: is undone", c -> {
            LeanSticks x = Samples.some();
            x.restore();
            c.due("undo()", x.undo(), 3);
            c.due("the text", Looks.text(x), Samples.SOME);
            c.due("QUICK", x.count(11), 2);
        });
        checks.test("promise 28: the pad and why() stay", c -> {
            LeanSticks x = Samples.some();
            x.restore();
            c.due("count(14)", x.count(14), 4);
            c.due("why()", x.why(), 1);
            c.due("read()", x.read(), 2);
            c.due("the text", Looks.text(x), Samples.PAD);
        });
        checks.test("promise 28: a longer piece, a shorter piece", c -> {
            LeanSticks x = Samples.full();
            c.due("restore() over 32", x.restore(), 2);
            x.cut(0, 1);
            c.due("restore() over none", x.restore(), 2);
            c.due("the text", Looks.text(x), "R>x");
        });
    }

    private static void manyCalls(Checks checks) {
        checks.test("errors: no call throws, and each refuses what is far out of range", c -> {
            int[] far = {MIN, MIN + 1, -1000000000, -65536, -3, 129, 65536, 1 << 30, MAX - 1, MAX};
            for (int bad : far) {
                allRefuse(c, Samples.some(), bad);
                allRefuse(c, Samples.full(), bad);
                allRefuse(c, Samples.empty(), bad);
                allRefuse(c, Samples.stuck(), bad);
            }
        });
        checks.test("an object: the 512th call answers as the first one", c -> {
            LeanSticks x = new LeanSticks();
            c.due("stroke", x.stroke(0, 2, false, 0), 1);
            for (int call = 2; call <= 511; call++) {
                c.due("call " + call, call % 2 == 0 ? x.mirror() : x.restore(), call % 2 == 0 ? 0 : NOT_POSSIBLE);
            }
            c.due("the 512th call", x.undo(), 3);
        });
        checks.test("an object: 510 changes, then two undone", c -> {
            LeanSticks x = new LeanSticks();
            for (int call = 1; call <= 510; call++) {
                x.set(1 + call % 4);
            }
            c.due("undo()", x.undo(), 3);
            c.due("undo() again", x.undo(), 2);
            c.due("QUICK", x.count(11), 1 + 508 % 4);
        });
    }

    private static void allRefuse(Checks c, LeanSticks x, int bad) {
        int[] answers = {x.stroke(bad, 0, false, 0), x.stroke(0, bad, true, 0), x.stroke(0, 0, false, bad), x.rest(bad),
            x.put(bad, 0), x.put(0, bad), x.cut(bad, 0), x.cut(0, bad), x.cut(bad, bad), x.turn(bad), x.set(bad),
            x.append(bad), x.fault(bad), x.step(bad, 0), x.step(0, bad), x.heard(bad), x.stickings(false, bad),
            x.stickings(true, bad), x.count(bad), x.ifStroke(bad, 0, 0, 0), x.ifStroke(0, bad, 0, 0),
            x.ifStroke(0, 0, bad, 0), x.ifStroke(0, 0, 0, bad)};
        for (int place = 0; place < answers.length; place++) {
            c.due("answer " + place + " to " + bad, answers[place], INVALID);
        }
        c.due("sign(" + bad + ")", x.sign(bad), bad < 0 ? INVALID : LeanSticks.NOT_FOUND);
    }
}
