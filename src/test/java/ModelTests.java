import java.util.Random;

/** Long runs of calls, the same ones each time, whose answers are compared with those of the model. */
public final class ModelTests {
    private static final int CALLS = 512;
    private static final int[] FAR = {Integer.MIN_VALUE, Integer.MAX_VALUE, -1000000, 1000000, 33, 64, -5};
    private static final String SIGNS = "RLxRLx.>fd*2345()()..RLxRLx";

    private final Checks checks;
    private final Random random;
    private final LeanSticks x = new LeanSticks();
    private final Model model = new Model();
    /** How many of 10 strokes are of either hand. */
    private final int either;

    private ModelTests(Checks checks, long seed) {
        this.checks = checks;
        random = new Random(seed);
        either = random.nextInt(6);
    }

    public static void main(String[] args) {
        Checks checks = new Checks();
        checks.test("model: runs of calls", c -> runs(c, 1, 120));
        checks.test("model: all pieces of three steps", ModelTests::smallPieces);
        checks.test("model: all short texts", ModelTests::shortTexts);
        checks.test("model: many strokes of either hand, told in two ways", ModelTests::twoWays);
        checks.end();
    }

    private static void runs(Checks checks, int from, int to) {
        for (int seed = from; seed <= to; seed++) {
            ModelTests run = new ModelTests(checks, seed);
            for (int number = 0; number < CALLS; number++) {
                run.one("run " + seed + ", call " + number + ": ");
            }
        }
    }

    private void one(String where) {
        int kind = random.nextInt(100);
        if (kind < 45) {
            change(where, random.nextInt(13));
        } else if (kind < 65) {
            text(where, random.nextInt(6));
        } else {
            look(where, random.nextInt(11));
        }
    }

    private void due(String where, String told, long got, long want) {
        checks.due(where + told, got, want);
    }

    /** Mostly a number that is in range or just beside it. */
    private int near(int low, int high) {
        if (random.nextInt(40) == 0) {
            return FAR[random.nextInt(FAR.length)];
        }
        if (random.nextInt(12) == 0) {
            return random.nextBoolean() ? low - 1 : high + 1;
        }
        return low + random.nextInt(Math.max(1, high - low + 1));
    }

    private int size() {
        return model.count(0);
    }

    private int hand() {
        if (random.nextInt(30) == 0) {
            return near(0, 2);
        }
        boolean isEither = random.nextInt(10) < either && model.either() < Model.MOST_EITHER;
        return isEither ? 2 : random.nextInt(2);
    }

    private boolean isTooMuch() {
        return model.either() > Model.MOST_EITHER;
    }

    private void change(String where, int kind) {
        int a = near(0, size());
        int b = near(0, size());
        boolean flag = random.nextBoolean();
        switch (kind) {
            case 0: case 1: case 2: {
                int step = random.nextInt(3) > 0 ? size() : a;
                int hand = hand();
                int ornament = near(0, 3);
                due(where, "stroke(" + step + ", " + hand + ", " + flag + ", " + ornament + ")",
                        x.stroke(step, hand, flag, ornament), model.stroke(step, hand, flag, ornament));
                break;
            }
            case 3:
                due(where, "rest(" + a + ")", x.rest(a), model.rest(a));
                break;
            case 4:
                due(where, "put(" + a + ", " + b + ")", x.put(a, b), model.put(a, b));
                break;
            case 5: {
                int to = random.nextInt(4) > 0 ? a + random.nextInt(3) : b;
                due(where, "cut(" + a + ", " + to + ")", x.cut(a, to), model.cut(a, to));
                break;
            }
            case 6:
                due(where, "mirror()", x.mirror(), model.mirror());
                break;
            case 7:
                due(where, "turn(" + a + ")", x.turn(a), model.turn(a));
                break;
            case 8:
                due(where, "lean(" + flag + ")", x.lean(flag), model.lean(flag));
                break;
            case 9: {
                int quick = near(1, 4);
                due(where, "set(" + quick + ")", x.set(quick), model.set(quick));
                break;
            }
            case 10:
                if (!isTooMuch() && random.nextInt(3) == 0) {
                    due(where, "decide(" + flag + ")", x.decide(flag), model.decide(flag));
                }
                break;
            case 11:
                due(where, "undo()", x.undo(), model.undo());
                break;
            default:
                if (random.nextInt(4) == 0) {
                    due(where, "save()", x.save(), model.save());
                } else {
                    due(where, "restore()", x.restore(), model.restore());
                }
        }
    }

    private void text(String where, int kind) {
        switch (kind) {
            case 0: {
                int code = near(33, 126);
                due(where, "append(" + code + ")", x.append(code), model.append(code));
                break;
            }
            case 1:
                for (int times = 1 + random.nextInt(6); times > 0; times--) {
                    char code = SIGNS.charAt(random.nextInt(SIGNS.length()));
                    due(where, "append(" + code + ")", x.append(code), model.append(code));
                }
                break;
            case 2:
                if (random.nextInt(3) == 0) {
                    due(where, "clear()", x.clear(), model.clear());
                }
                break;
            case 3:
                due(where, "read()", x.read(), model.read());
                due(where, "why()", x.why(), model.why());
                break;
            case 4:
                typeOne(where);
                break;
            default: {
                int way = near(0, 1);
                due(where, "fault(" + way + ")", x.fault(way), model.fault(way));
            }
        }
    }

    /** A text that is likely right. */
    private void typeOne(String where) {
        String[] some = {"R", "L.", "RL", "xL", ".R", "xx", "2(fRL*)", "3(>dx.)", "4(8(R))", "4(9(L))", "2(2(x)R)f",
            ">dRdL", "9(9(.))", "R*dL", "x*dxfx"};
        String text = some[random.nextInt(some.length)];
        due(where, "clear()", x.clear(), model.clear());
        for (int place = 0; place < text.length(); place++) {
            due(where, "append()", x.append(text.charAt(place)), model.append(text.charAt(place)));
        }
    }

    private void look(String where, int kind) {
        boolean flag = random.nextBoolean();
        int a = near(0, size() - 1);
        if (isTooMuch()) {
            x.stickings(flag, 1);
            return;
        }
        switch (kind) {
            case 0: {
                int what = near(0, 6);
                due(where, "step(" + a + ", " + what + ")", x.step(a, what), model.step(a, what));
                break;
            }
            case 1: {
                int tick = near(-2, 4 * size());
                due(where, "heard(" + tick + ")", x.heard(tick), model.heard(tick));
                break;
            }
            case 2: {
                int way = near(0, 1);
                due(where, "stickings(" + flag + ", " + way + ")", x.stickings(flag, way), model.stickings(flag, way));
                break;
            }
            case 3:
                due(where, "clash()", x.clash(), model.clash());
                break;
            case 4: {
                int what = near(0, 15);
                due(where, "count(" + what + ")", x.count(what), model.count(what));
                break;
            }
            case 5:
                checks.due(where + "right(" + flag + ")", x.right(flag), model.right(flag));
                break;
            case 6:
                due(where, "patterns()", x.patterns(), model.patterns());
                break;
            case 7: {
                int hand = hand();
                int ornament = near(0, 3);
                int what = near(0, 2);
                due(where, "ifStroke(" + a + ", " + hand + ", " + ornament + ", " + what + ")",
                        x.ifStroke(a, hand, ornament, what), model.ifStroke(a, hand, ornament, what));
                break;
            }
            case 8:
                due(where, "quickest()", x.quickest(), model.quickest());
                break;
            case 9: {
                int place = near(0, model.count(13));
                due(where, "sign(" + place + ")", x.sign(place), model.sign(place));
                break;
            }
            default:
                due(where, "why()", x.why(), model.why());
        }
    }

    private static final String[] KINDS = {".", "R", "L", "x", "fR", "fL", "fx", "dR", "dL", "dx", "R*", "L*", "x*"};

    private static void smallPieces(Checks checks) {
        for (String one : KINDS) {
            for (String two : KINDS) {
                for (String three : KINDS) {
                    for (int quick = 1; quick <= 4; quick++) {
                        smallPiece(checks, one + two + three, quick);
                    }
                }
                smallPiece(checks, one + two, 4);
            }
            smallPiece(checks, one, 4);
        }
    }

    private static void smallPiece(Checks checks, String text, int quick) {
        LeanSticks x = Looks.of(text, quick);
        Model model = new Model();
        for (int place = 0; place < text.length(); place++) {
            model.append(text.charAt(place));
        }
        model.read();
        model.set(quick);
        String where = text + " with QUICK " + quick + ": ";
        checks.due(where + "stickings(true, 0)", x.stickings(true, 0), model.stickings(true, 0));
        checks.due(where + "stickings(true, 1)", x.stickings(true, 1), model.stickings(true, 1));
        checks.due(where + "stickings(false, 0)", x.stickings(false, 0), model.stickings(false, 0));
        checks.due(where + "stickings(false, 1)", x.stickings(false, 1), model.stickings(false, 1));
        checks.due(where + "clash()", x.clash(), model.clash());
        checks.due(where + "right(true)", x.right(true), model.right(true));
        checks.due(where + "right(false)", x.right(false), model.right(false));
        for (int step = 0; step < x.count(0); step++) {
            checks.due(where + "step(" + step + ", 5)", x.step(step, 5), model.step(step, 5));
            checks.due(where + "step(" + step + ", 6)", x.step(step, 6), model.step(step, 6));
        }
    }

    private static void shortTexts(Checks checks) {
        String signs = "Rxf>*.2()1";
        for (int length = 0; length <= 5; length++) {
            int texts = (int) Math.pow(signs.length(), length);
            for (int number = 0; number < texts; number++) {
                StringBuilder text = new StringBuilder();
                for (int left = number, place = 0; place < length; place++, left /= signs.length()) {
                    text.append(signs.charAt(left % signs.length()));
                }
                if (length < 5 || number % 7 == 0) {
                    shortText(checks, text.toString());
                }
            }
        }
    }

    private static void shortText(Checks checks, String text) {
        LeanSticks x = new LeanSticks();
        Model model = new Model();
        Looks.type(x, text);
        for (int place = 0; place < text.length(); place++) {
            model.append(text.charAt(place));
        }
        checks.due(text + ": fault(0)", x.fault(0), model.fault(0));
        checks.due(text + ": fault(1)", x.fault(1), model.fault(1));
        checks.due(text + ": read()", x.read(), model.read());
        checks.due(text + ": why()", x.why(), model.why());
        for (int place = 0; place <= model.count(13); place++) {
            checks.due(text + ": sign(" + place + ")", x.sign(place), model.sign(place));
        }
    }

    private static void twoWays(Checks checks) {
        Random random = new Random(7);
        for (int number = 0; number < 500; number++) {
            LeanSticks x = new LeanSticks();
            int either = 0;
            for (int step = 0; step < 32; step++) {
                int hand = either < 8 && random.nextInt(3) == 0 ? 2 : random.nextInt(2);
                int ornament = random.nextInt(3) == 0 ? random.nextInt(4) : 0;
                either += hand == 2 ? 1 : 0;
                if (random.nextInt(3) == 0) {
                    x.rest(step);
                } else {
                    x.stroke(step, hand, false, ornament);
                }
            }
            x.set(1 + number % 4);
            checks.due("once", x.stickings(false, 1), x.stickings(false, 0));
            checks.due("over", x.stickings(true, 1), x.stickings(true, 0));
        }
    }
}
