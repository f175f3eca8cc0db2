import java.util.ArrayDeque;
import java.util.ArrayList;
import java.util.List;
import java.util.regex.Matcher;
import java.util.regex.Pattern;

/**
 * The document once more, in the slowest and most literal form: blows are laid out tick by tick,
 * every sticking is tried, texts are read by rewriting them. It shares no thought with the class.
 */
final class Model {
    static final int MOST_EITHER = 9;
    private static final Pattern ITEM = Pattern.compile("\\.|>?(?:[fd][RLx]|[RLx]\\*?)");
    private static final Pattern INNER_REPEAT = Pattern.compile("([2-9])\\(([^()]+)\\)");

    /** A step is its text. */
    private List<String> steps = new ArrayList<>();
    private int quick = 2;
    private StringBuilder pad = new StringBuilder();
    private int why = 0;
    private List<String> savedSteps = null;
    private int savedQuick = 0;
    private final ArrayDeque<List<String>> pastSteps = new ArrayDeque<>();
    private final ArrayDeque<Integer> pastQuick = new ArrayDeque<>();

    private record Blow(int stroke, int tick, int hand, int force) {
    }

    int either() {
        return howMany("x");
    }

    // ---- steps

    private static String item(int hand, boolean accented, int ornament) {
        return (accented ? ">" : "") + (ornament == 1 ? "f" : ornament == 2 ? "d" : "") + "RLx".charAt(hand)
                + (ornament == 3 ? "*" : "");
    }

    private void record() {
        pastSteps.addLast(new ArrayList<>(steps));
        pastQuick.addLast(quick);
        if (pastSteps.size() == 5) {
            pastSteps.removeFirst();
            pastQuick.removeFirst();
        }
    }

    private boolean isStep(int step) {
        return step >= 0 && step < steps.size();
    }

    private boolean isGap(int step) {
        return isStep(step) || step == steps.size();
    }

    private int write(int step, String item) {
        if (step == 32) {
            return -3;
        }
        record();
        if (step < steps.size()) {
            steps.remove(step);
        }
        steps.add(step, item);
        return steps.size();
    }

    int stroke(int step, int hand, boolean accented, int ornament) {
        if (!isGap(step) || hand < 0 || hand > 2 || ornament < 0 || ornament > 3) {
            return -1;
        }
        return write(step, item(hand, accented, ornament));
    }

    int rest(int step) {
        return isGap(step) ? write(step, ".") : -1;
    }

    int put(int step, int like) {
        if (!isGap(step) || !isStep(like)) {
            return -1;
        }
        if (steps.size() == 32) {
            return -3;
        }
        record();
        steps.add(step, steps.get(like));
        return steps.size();
    }

    int cut(int from, int to) {
        if (!isStep(from) || !isStep(to) || from > to) {
            return -1;
        }
        record();
        steps.subList(from, to + 1).clear();
        return steps.size();
    }

    private int become(List<String> then) {
        int changed = 0;
        for (int step = 0; step < steps.size(); step++) {
            changed += steps.get(step).equals(then.get(step)) ? 0 : 1;
        }
        record();
        steps = then;
        return changed;
    }

    private int rewrite(char one, char other, boolean both) {
        List<String> then = new ArrayList<>();
        for (String item : steps) {
            String half = item.replace(one, '?');
            then.add((both ? half.replace(other, one) : half).replace('?', other));
        }
        return become(then);
    }

    int mirror() {
        return rewrite('R', 'L', true);
    }

    int turn(int by) {
        if (!isGap(by)) {
            return -1;
        }
        List<String> then = new ArrayList<>(steps.subList(by, steps.size()));
        then.addAll(steps.subList(0, by));
        return become(then);
    }

    int lean(boolean toDrags) {
        return toDrags ? rewrite('f', 'd', false) : rewrite('d', 'f', false);
    }

    int set(int to) {
        if (to < 1 || to > 4) {
            return -1;
        }
        record();
        int before = quick;
        quick = to;
        return before;
    }

    int decide(boolean best) {
        String hands = chosen(steps, quick, best);
        if (hands == null) {
            return -2;
        }
        List<String> then = new ArrayList<>();
        int stroke = 0;
        for (String item : steps) {
            then.add(item.equals(".") ? item : item.replace('x', hands.charAt(stroke++)));
        }
        return become(then);
    }

    // ---- texts

    int append(int code) {
        if (code < 33 || code > 126) {
            return -1;
        }
        if (pad.length() == 60) {
            return -3;
        }
        pad.append((char) code);
        return pad.length();
    }

    int clear() {
        int length = pad.length();
        pad = new StringBuilder();
        return length;
    }

    private static boolean isPiece(String text) {
        if (!text.matches("[RLxfd>*.2-9()]*")) {
            return false;
        }
        String left = ITEM.matcher(text).replaceAll("i");
        for (String before = ""; !before.equals(left);) {
            before = left;
            left = left.replaceAll("[2-9]\\(i+\\)", "i");
        }
        return left.matches("i+");
    }

    private static boolean beginsPiece(String text) {
        for (String end : new String[] {"", "R", "(R"}) {
            for (int closing = 0; closing <= 30; closing++) {
                if (isPiece(text + end + ")".repeat(closing))) {
                    return true;
                }
            }
        }
        return false;
    }

    int fault(int way) {
        if (way != 0 && way != 1) {
            return -1;
        }
        String text = pad.toString();
        for (int place = 0; place < text.length(); place++) {
            String begun = text.substring(0, place + 1);
            if (way == 0 ? !beginsPiece(begun) : !begun.matches("[RLx.]*")) {
                return place;
            }
        }
        boolean complete = way == 0 ? isPiece(text) : !text.isEmpty();
        return complete ? -4 : text.length();
    }

    /** Null if there are too many. */
    private static List<String> expanded(String text) {
        String left = text;
        for (Matcher m = INNER_REPEAT.matcher(left); m.find(); m = INNER_REPEAT.matcher(left)) {
            left = left.substring(0, m.start()) + m.group(2).repeat(m.group(1).charAt(0) - '0')
                    + left.substring(m.end());
            if (left.length() > 1000) {
                return null;
            }
        }
        List<String> items = new ArrayList<>();
        for (Matcher m = ITEM.matcher(left); m.find();) {
            items.add(m.group());
        }
        return items.size() > 32 ? null : items;
    }

    int read() {
        if (fault(0) != -4) {
            why = 1;
            return -2;
        }
        List<String> then = expanded(pad.toString());
        if (then == null) {
            why = 2;
            return -3;
        }
        why = 0;
        record();
        steps = then;
        clear();
        return steps.size();
    }

    int why() {
        return why;
    }

    int sign(int place) {
        String text = String.join("", steps);
        return place < 0 ? -1 : place < text.length() ? text.charAt(place) : -4;
    }

    // ---- blows and stickings

    private static List<String> strokes(List<String> items) {
        List<String> strokes = new ArrayList<>(items);
        strokes.removeIf(item -> item.equals("."));
        return strokes;
    }

    /** The blows of a time of the piece that begins at a tick; its strokes are numbered from a number. */
    private static List<Blow> blows(List<String> items, String hands, int tick, int number) {
        List<Blow> blows = new ArrayList<>();
        int stroke = 0;
        for (int step = 0; step < items.size(); step++) {
            String item = items.get(step);
            if (!item.equals(".")) {
                int hand = hands.charAt(stroke) == 'R' ? 0 : 1;
                int at = tick + 4 * step;
                int name = number + stroke;
                stroke++;
                blows.add(new Blow(name, at, hand, item.contains(">") ? 3 : 2));
                if (item.contains("f") || item.contains("d")) {
                    blows.add(new Blow(name, at - 1, 1 - hand, 1));
                }
                if (item.contains("d")) {
                    blows.add(new Blow(name, at - 2, 1 - hand, 1));
                }
                if (item.contains("*")) {
                    blows.add(new Blow(name, at + 2, hand, 1));
                }
            }
        }
        return blows;
    }

    private static boolean clash(Blow one, Blow other, int quick) {
        return one.stroke != other.stroke && one.hand == other.hand && Math.abs(one.tick - other.tick) < quick;
    }

    private static boolean canPlay(List<String> items, String hands, int quick, boolean over) {
        List<Blow> blows = new ArrayList<>();
        for (int time = 0; time < (over ? 4 : 1); time++) {
            blows.addAll(blows(items, hands, time * 4 * items.size(), time * 100));
        }
        for (Blow one : blows) {
            for (Blow other : blows) {
                if (clash(one, other, quick)) {
                    return false;
                }
            }
        }
        return true;
    }

    /** In their order. */
    private static List<String> stickingsOf(List<String> items) {
        List<String> found = new ArrayList<>(List.of(""));
        for (String item : strokes(items)) {
            List<String> longer = new ArrayList<>();
            for (String hands : found) {
                if (!item.contains("L")) {
                    longer.add(hands + "R");
                }
                if (!item.contains("R")) {
                    longer.add(hands + "L");
                }
            }
            found = longer;
        }
        return found;
    }

    private static int tell(List<String> items, int quick, boolean over) {
        int told = 0;
        for (String hands : stickingsOf(items)) {
            told += canPlay(items, hands, quick, over) ? 1 : 0;
        }
        return told;
    }

    private static int repeated(String hands) {
        int repeated = 0;
        for (int place = 1; place < hands.length(); place++) {
            repeated += hands.charAt(place) == hands.charAt(place - 1) ? 1 : 0;
        }
        return repeated;
    }

    private static String chosen(List<String> items, int quick, boolean best) {
        String chosen = null;
        for (String hands : stickingsOf(items)) {
            boolean isBetter = chosen == null || best && repeated(hands) < repeated(chosen);
            if (isBetter && canPlay(items, hands, quick, false)) {
                chosen = hands;
            }
        }
        return chosen;
    }

    /** With '.' for rests; null if no sticking can be played. */
    private String chosenBySteps(boolean best) {
        String hands = chosen(steps, quick, best);
        if (hands == null) {
            return null;
        }
        StringBuilder told = new StringBuilder();
        int stroke = 0;
        for (String item : steps) {
            told.append(item.equals(".") ? '.' : hands.charAt(stroke++));
        }
        return told.toString();
    }

    // ---- looks

    int step(int step, int what) {
        if (!isStep(step) || what < 0 || what > 6) {
            return -1;
        }
        String item = steps.get(step);
        List<Blow> blows = blows(List.of(item), "R", 0, 0);
        switch (what) {
            case 0:
                return item.contains("R") ? 0 : item.contains("L") ? 1 : item.contains("x") ? 2 : -4;
            case 1:
                return item.contains(">") ? 1 : 0;
            case 2:
                return item.contains("f") ? 1 : item.contains("d") ? 2 : item.contains("*") ? 3 : 0;
            case 3:
                return blows.size();
            case 4:
                return blows.stream().mapToInt(Blow::force).sum();
            default:
                String hands = chosenBySteps(what == 6);
                return hands == null || item.equals(".") ? -4 : hands.charAt(step) == 'R' ? 0 : 1;
        }
    }

    private List<Blow> someBlows() {
        return blows(steps, "R".repeat(32), 0, 0);
    }

    int heard(int tick) {
        if (tick < -2 || tick > 4 * steps.size()) {
            return -1;
        }
        return someBlows().stream().filter(blow -> blow.tick == tick).mapToInt(Blow::force).sum();
    }

    int stickings(boolean over, int way) {
        return way != 0 && way != 1 ? -1 : tell(steps, quick, over);
    }

    int clash() {
        if (either() > 0) {
            return -2;
        }
        int first = -4;
        List<Blow> blows = blows(steps, String.join("", steps).replaceAll("[^RL]", ""), 0, 0);
        for (Blow one : blows) {
            for (Blow other : blows) {
                if (one.stroke > other.stroke && clash(one, other, quick) && (first == -4 || one.stroke < first)) {
                    first = one.stroke;
                }
            }
        }
        return first == -4 ? -4 : stepOfStroke(first);
    }

    private int stepOfStroke(int stroke) {
        int left = stroke;
        for (int step = 0; step < steps.size(); step++) {
            if (!steps.get(step).equals(".") && left-- == 0) {
                return step;
            }
        }
        throw new IllegalStateException("no such stroke");
    }

    private int howMany(String sign) {
        return (int) steps.stream().filter(item -> item.contains(sign)).count();
    }

    int count(int what) {
        String text = String.join("", steps);
        int[] numbers = {steps.size(), howMany("."), howMany("R"), howMany("L"), howMany("x"), howMany(">"),
            howMany("f"), howMany("d"), howMany("*"), someBlows().size(),
            someBlows().stream().mapToInt(Blow::force).sum(), quick, longestRow(), text.length(), pad.length(),
            pastSteps.size()};
        return what >= 0 && what < numbers.length ? numbers[what] : -1;
    }

    private int longestRow() {
        int longest = 0;
        StringBuilder row = new StringBuilder();
        for (String item : steps) {
            row.append(item.equals(".") ? '.' : 'x');
        }
        for (String part : row.toString().split("\\.")) {
            longest = Math.max(longest, part.length());
        }
        return longest;
    }

    double right(boolean best) {
        String hands = chosen(steps, quick, best);
        if (hands == null || hands.isEmpty()) {
            return -1.0;
        }
        double all = 0;
        double ofRight = 0;
        for (Blow blow : blows(steps, hands, 0, 0)) {
            all += blow.force;
            ofRight += blow.hand == 0 ? blow.force : 0;
        }
        return ofRight / all;
    }

    int patterns() {
        String hands = chosenBySteps(true);
        if (fault(1) != -4 || hands == null) {
            return -2;
        }
        Pattern pattern = Pattern.compile(pad.toString().replace(".", "\\.").replace("x", "[RL]"));
        int found = 0;
        for (int from = 0; from < hands.length(); from++) {
            found += pattern.matcher(hands.substring(from)).lookingAt() ? 1 : 0;
        }
        return found;
    }

    // ---- what would be

    int ifStroke(int step, int hand, int ornament, int what) {
        if (!isStep(step) || hand < 0 || hand > 2 || ornament < 0 || ornament > 3 || what < 0 || what > 2) {
            return -1;
        }
        List<String> then = new ArrayList<>(steps);
        then.set(step, item(hand, steps.get(step).contains(">"), ornament));
        if (what < 2) {
            return tell(then, quick, what == 1);
        }
        String best = chosen(then, quick, true);
        return best == null ? -4 : repeated(best);
    }

    int quickest() {
        int found = -4;
        for (int each = 1; each <= 4; each++) {
            found = tell(steps, each, false) > 0 ? each : found;
        }
        return found;
    }

    // ---- history, snapshot

    int undo() {
        if (pastSteps.isEmpty()) {
            return -2;
        }
        steps = pastSteps.removeLast();
        quick = pastQuick.removeLast();
        return pastSteps.size();
    }

    int save() {
        savedSteps = new ArrayList<>(steps);
        savedQuick = quick;
        return steps.size();
    }

    int restore() {
        if (savedSteps == null) {
            return -2;
        }
        record();
        steps = new ArrayList<>(savedSteps);
        quick = savedQuick;
        return steps.size();
    }
}
