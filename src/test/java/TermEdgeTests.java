/** The terms: steps, blows, stickings and settings. Each sentence that names an edge has a test of its own. */
public final class TermEdgeTests {
    private static final int INVALID = LeanSticks.INVALID_ARGUMENT;
    private static final int LIMIT = LeanSticks.LIMIT_REACHED;
    private static final int NOT_FOUND = LeanSticks.NOT_FOUND;

    public static void main(String[] args) {
        Checks checks = new Checks();
        steps(checks);
        blows(checks);
        near(checks);
        notNear(checks);
        overAndOver(checks);
        order(checks);
        best(checks);
        checks.end();
    }

    private static void steps(Checks checks) {
        checks.test("steps: a piece of 0 steps", c -> {
            LeanSticks x = new LeanSticks();
            c.due("count(0)", x.count(0), 0);
            c.due("step(0, 0)", x.step(0, 0), INVALID);
        });
        checks.test("steps: a piece of 32 steps, and no more", c -> {
            LeanSticks x = new LeanSticks();
            for (int step = 0; step < 32; step++) {
                c.due("stroke(" + step + ")", x.stroke(step, step % 3, false, step % 4), step + 1);
            }
            c.due("stroke(32)", x.stroke(32, 0, false, 0), LIMIT);
            c.due("rest(32)", x.rest(32), LIMIT);
            c.due("put(32, 0)", x.put(32, 0), LIMIT);
            for (int step = 0; step < 32; step++) {
                c.due("step(" + step + ", 0)", x.step(step, 0), step % 3);
                c.due("step(" + step + ", 2)", x.step(step, 2), step % 4);
            }
        });
        checks.test("steps: the step k is at the tick 4 * k", c -> {
            for (int step = 0; step < 32; step++) {
                LeanSticks x = Looks.of("4(8(.))");
                x.stroke(step, 0, true, 0);
                for (int tick = -2; tick <= 128; tick++) {
                    c.due("heard(" + tick + ") of step " + step, x.heard(tick), tick == 4 * step ? 3 : 0);
                }
            }
        });
    }

    /** The forces at the ticks -2 to 2 from the step's own, for a step with rests beside it. */
    private static void sounds(Checks c, String stroke, int... due) {
        for (int step = 0; step <= 2; step++) {
            LeanSticks x = Looks.of(".".repeat(step) + stroke + ".");
            for (int off = -2; off <= 2; off++) {
                c.due("heard at " + off + " from step " + step + ": " + stroke, x.heard(4 * step + off), due[off + 2]);
            }
        }
    }

    private static void blows(Checks checks) {
        checks.test("blows: the force 2", c -> sounds(c, "R", 0, 0, 2, 0, 0));
        checks.test("blows: the force 3 if it is accented", c -> sounds(c, ">L", 0, 0, 3, 0, 0));
        checks.test("blows: a flam at the tick 4 * k - 1", c -> sounds(c, "fL", 0, 1, 2, 0, 0));
        checks.test("blows: a drag at the ticks 4 * k - 2 and 4 * k - 1", c -> sounds(c, "dx", 1, 1, 2, 0, 0));
        checks.test("blows: a double at the tick 4 * k + 2", c -> sounds(c, "R*", 0, 0, 2, 0, 1));
        checks.test("blows: an accent makes small ones no louder", c -> {
            sounds(c, ">fR", 0, 1, 3, 0, 0);
            sounds(c, ">dR", 1, 1, 3, 0, 0);
            sounds(c, ">x*", 0, 0, 3, 0, 1);
        });
        checks.test("blows: small ones of a flam and a drag are of the other hand", c -> {
            c.due("flam", Looks.of("fR").right(true), 2.0 / 3.0);
            c.due("drag", Looks.of("dR").right(true), 2.0 / 4.0);
            c.due("flam of the left hand", Looks.of("fL").right(true), 1.0 / 3.0);
        });
        checks.test("blows: the one of a double is of its own hand", c -> {
            c.due("double", Looks.of("R*").right(true), 1.0);
            c.due("double of the left hand", Looks.of("L*").right(true), 0.0);
        });
    }

    /** The blows nearest to one another are so many ticks apart, and of the same hand. */
    private static void apart(Checks c, String piece, int ticks) {
        for (int quick = 1; quick <= 4; quick++) {
            LeanSticks x = Looks.of(piece, quick);
            boolean clashes = ticks < quick;
            int due = clashes ? x.count(0) - 1 : NOT_FOUND;
            c.due("clash() of " + piece + ", QUICK " + quick, x.clash(), due);
            c.due("stickings(false, 0) of " + piece + ", QUICK " + quick, x.stickings(false, 0), clashes ? 0 : 1);
            c.due("stickings(false, 1) of " + piece + ", QUICK " + quick, x.stickings(false, 1), clashes ? 0 : 1);
        }
    }

    private static void near(Checks checks) {
        checks.test("stickings: blows at the same tick clash, whatever QUICK is", c -> {
            apart(c, "R*dL", 0);
            apart(c, "L*dR", 0);
        });
        checks.test("stickings: blows 1 tick apart clash, if QUICK is more than 1", c -> {
            apart(c, "R*fL", 1);
            apart(c, "L*fR", 1);
        });
        checks.test("stickings: blows 2 ticks apart clash, if QUICK is more than 2", c -> {
            apart(c, "R*R", 2);
            apart(c, "R*R*", 2);
            apart(c, "L*L", 2);
            apart(c, "RdL", 2);
            apart(c, "dLdR", 2);
            apart(c, "R*dR", 2);
            apart(c, "fLdR", 2);
        });
        checks.test("stickings: blows 3 ticks apart clash, if QUICK is more than 3", c -> {
            apart(c, "RfL", 3);
            apart(c, "fRdR", 3);
            apart(c, "dRdR", 3);
            apart(c, "fRfL", 3);
            apart(c, "dRfL", 3);
        });
        checks.test("stickings: it clashes at the first and at the last steps", c -> {
            apart(c, "5(6(L))R*dL", 0);
            apart(c, "5(6(.))R*fL", 1);
        });
    }

    private static void notNear(Checks checks) {
        checks.test("stickings: blows 4 ticks apart never clash", c -> {
            apart(c, "RR", 4);
            apart(c, "LL", 4);
            apart(c, "fRfR", 4);
            apart(c, "dRfR", 4);
            apart(c, "R*.dL", 4);
            apart(c, "RR*", 4);
        });
        checks.test("stickings: blows of other hands never clash", c -> {
            apart(c, "RL", 4);
            apart(c, "R*L", 4);
            apart(c, "R*L*", 4);
            apart(c, "R.dL", 4);
        });
        checks.test("stickings: blows of the same stroke never clash", c -> {
            apart(c, "R*", 4);
            apart(c, "dR", 4);
            apart(c, "dL", 4);
            apart(c, "fL", 4);
        });
        checks.test("stickings: with rests between nothing clashes", c -> {
            apart(c, "R*.dL", 4);
            apart(c, "dL.R*.dL", 4);
            apart(c, "R*.....R*", 4);
        });
        checks.test("settings: QUICK 1, the least, and 4, the greatest", c -> {
            c.due("a flam, QUICK 1", Looks.of("R*fL", 1).stickings(false, 0), 1);
            c.due("a drag, QUICK 1", Looks.of("R*dL", 1).stickings(false, 0), 0);
            c.due("3 apart, QUICK 4", Looks.of("RfL", 4).stickings(false, 0), 0);
            c.due("4 apart, QUICK 4", Looks.of("RR", 4).stickings(false, 0), 1);
        });
        checks.test("settings: QUICK at first 2", c -> {
            c.due("1 apart", Looks.of("R*fL").stickings(false, 0), 0);
            c.due("2 apart", Looks.of("R*R").stickings(false, 0), 1);
        });
    }

    /** Once it can be played with each QUICK; over and over the nearest blows are so many ticks apart. */
    private static void apartOver(Checks c, String piece, int ticks) {
        for (int quick = 1; quick <= 4; quick++) {
            for (int way = 0; way <= 1; way++) {
                LeanSticks x = Looks.of(piece, quick);
                String call = way + ") of " + piece + ", QUICK " + quick;
                c.due("stickings(false, " + call, x.stickings(false, way), 1);
                c.due("stickings(true, " + call, x.stickings(true, way), ticks < quick ? 0 : 1);
            }
        }
    }

    private static void overAndOver(Checks checks) {
        checks.test("over and over: blows of the next time are of other strokes, even if of the same step", c -> {
            apartOver(c, "R*", 2);
            apartOver(c, "L*", 2);
            apartOver(c, "dR", 3);
            apartOver(c, "dL", 3);
            apartOver(c, "fR", 4);
            apartOver(c, "R", 4);
        });
        checks.test("over and over: it begins again 4 ticks behind its last step", c -> {
            apartOver(c, "dLR*", 0);
            apartOver(c, "fLLR*", 1);
            apartOver(c, "R.R*", 2);
            apartOver(c, "fLLR", 3);
            apartOver(c, "dL.R", 2);
        });
        checks.test("over and over: rests at the end and at the beginning are between", c -> {
            apartOver(c, "dLR*.", 4);
            apartOver(c, ".dLR*", 4);
            apartOver(c, "R*.", 4);
            apartOver(c, ".dR", 4);
        });
        checks.test("over and over: 32 steps", c -> {
            apartOver(c, "dL5(6(.))R*", 0);
            apartOver(c, "fL5(6(.))R*", 1);
            apartOver(c, "dL5(6(.))R", 2);
            apartOver(c, "dL5(6(.)).", 4);
        });
        checks.test("over and over: what clashes once clashes then, too",
                c -> c.due("stickings(true, 0)", Looks.of("R*dL..", 1).stickings(true, 0), 0));
        checks.test("over and over: strokes of either hand", c -> {
            c.due("one", Looks.of("x*", 3).stickings(true, 0), 0);
            c.due("two", Looks.of("x*x*", 3).stickings(true, 0), 2);
            c.due("three", Looks.of("x*x*x*", 3).stickings(true, 0), 0);
            c.due("three and a rest", Looks.of("x*x*x*.", 3).stickings(true, 0), 2);
        });
    }

    private static void firstIs(Checks c, String piece, int quick, String due) {
        c.due("the first one of " + piece, Looks.hands(Looks.of(piece, quick), false), due);
    }

    private static void order(Checks checks) {
        checks.test("order: the right hand at the first stroke at which they differ", c -> {
            firstIs(c, "xx", 2, "RR");
            firstIs(c, "x*x", 3, "RL");
            firstIs(c, "Lxx", 2, "LRR");
        });
        checks.test("order: the left hand where the right one can't be played", c -> {
            firstIs(c, "xfL", 4, "LL");
            firstIs(c, "x*x*L", 3, "LRL");
            firstIs(c, "xx*L*x", 3, "RRLR");
        });
        checks.test("order: the last stroke may be what forbids the right hand at the first one",
                c -> firstIs(c, "2(3(x*))x*R", 3, "LRLRLRLR"));
    }

    private static void bestIs(Checks c, String piece, int quick, String due) {
        c.due("the best one of " + piece, Looks.hands(Looks.of(piece, quick), true), due);
    }

    private static void best(Checks checks) {
        checks.test("best: the fewest strokes that have the same hand as the stroke before", c -> {
            bestIs(c, "xxxx", 2, "RLRL");
            bestIs(c, "xR", 2, "LR");
            bestIs(c, "xxR", 2, "RLR");
            bestIs(c, "LxxR", 2, "LRLR");
        });
        checks.test("best: rests do not matter", c -> {
            bestIs(c, "x.x", 2, "R-L");
            bestIs(c, "x..R", 2, "L--R");
            bestIs(c, ".x.", 2, "-R-");
        });
        checks.test("best: the first stroke has none before it", c -> {
            bestIs(c, "x", 2, "R");
            bestIs(c, "..x", 2, "--R");
        });
        checks.test("best: of several the first one", c -> {
            bestIs(c, "LxR", 2, "LRR");
            bestIs(c, "RxL", 2, "RRL");
            bestIs(c, "RxxR", 2, "RRLR");
            bestIs(c, "LxxL", 2, "LRRL");
        });
        checks.test("best: of those that can be played", c -> {
            bestIs(c, "x*dx", 2, "RR");
            bestIs(c, "x*dxx", 2, "RRL");
            bestIs(c, "xfxfx", 4, "RRR");
        });
        checks.test("best: the last stroke may be what decides the first one",
                c -> bestIs(c, "5(6(x))xR", 2, "LR".repeat(16)));
        checks.test("best: the longest way round: 31 strokes with the same hand as before", c -> {
            LeanSticks x = Looks.of("4(8(R))");
            c.due("ifStroke(0, 0, 0, 2)", x.ifStroke(0, 0, 0, 2), 31);
        });
    }
}
