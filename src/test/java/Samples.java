/**
 * Objects in which everything is filled: four states in the history, a snapshot, a pad, a refused read.
 * What a call changes that it should not, shows in them.
 */
final class Samples {
    static final String PAD = "L>x*";
    /** Six steps; a sticking can be played. */
    static final String SOME = ">fR.xL*x>dR";
    static final String FULL = "4(8(x))";
    /** Three steps; no sticking can be played. */
    static final String STUCK = "R*dLx";

    private Samples() {
    }

    static LeanSticks some() {
        return filled(SOME);
    }

    static LeanSticks full() {
        return filled(FULL);
    }

    static LeanSticks stuck() {
        return filled(STUCK);
    }

    /** Without steps. */
    static LeanSticks empty() {
        return filled("");
    }

    /** Six steps, and a pad of 60 characters. */
    static LeanSticks fullPad() {
        LeanSticks x = some();
        Looks.type(x, ">dR".repeat(20));
        return x;
    }

    private static LeanSticks filled(String piece) {
        LeanSticks x = Looks.of("L", 4);
        Looks.read(x, "R>x");
        x.save();
        x.set(2);
        if (piece.isEmpty()) {
            x.cut(0, 1);
        } else {
            Looks.read(x, piece);
        }
        Looks.read(x, "R)");
        Looks.type(x, PAD);
        return x;
    }
}
