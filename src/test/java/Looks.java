/** Makes objects from texts, and tells what can be seen of them. */
final class Looks {
    private Looks() {
    }

    static void type(LeanSticks x, String text) {
        x.clear();
        for (int place = 0; place < text.length(); place++) {
            x.append(text.charAt(place));
        }
    }

    static int read(LeanSticks x, String text) {
        type(x, text);
        return x.read();
    }

    static LeanSticks of(String text) {
        LeanSticks x = new LeanSticks();
        if (!text.isEmpty()) {
            read(x, text);
        }
        return x;
    }

    static LeanSticks of(String text, int quick) {
        LeanSticks x = of(text);
        x.set(quick);
        return x;
    }

    static String text(LeanSticks x) {
        StringBuilder text = new StringBuilder();
        for (int sign = x.sign(0); sign >= 0; sign = x.sign(text.length())) {
            text.append((char) sign);
        }
        return text.toString();
    }

    static String hands(LeanSticks x, boolean best) {
        StringBuilder hands = new StringBuilder();
        for (int step = 0; step < x.count(0); step++) {
            int hand = x.step(step, best ? 6 : 5);
            hands.append(hand == 0 ? 'R' : hand == 1 ? 'L' : '-');
        }
        return hands.toString();
    }

    private static String pieceOf(LeanSticks x) {
        return text(x) + "/" + x.count(11) + " ";
    }

    /**
     * All that an object holds, also what only undo(), restore() and read() bring to light: the object
     * is used up by it.
     */
    static String everything(LeanSticks x) {
        StringBuilder told = new StringBuilder(all(x) + " why " + x.why() + " undone ");
        for (int left = x.count(15); left > 0; left--) {
            told.append(x.undo()).append(':').append(pieceOf(x));
        }
        told.append(x.undo()).append(" snapshot ").append(x.restore()).append(':').append(pieceOf(x));
        return told.append("pad ").append(x.read()).append(':').append(pieceOf(x)).toString();
    }

    /** The pad can't be looked into; its faults and its patterns are told beside its length. */
    static String all(LeanSticks x) {
        return text(x) + " quick " + x.count(11) + " pad " + x.count(14) + " " + x.fault(0) + " " + x.fault(1) + " "
                + x.patterns() + " states " + x.count(15);
    }
}
