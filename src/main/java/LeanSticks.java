/** Drum rudiments notated as sticking: pieces of steps, the hands that can play them, and their texts. */
public final class LeanSticks {
    public static final int INVALID_ARGUMENT = -1;
    public static final int NOT_POSSIBLE = -2;
    public static final int LIMIT_REACHED = -3;
    public static final int NOT_FOUND = -4;

    private static final int MOST_STEPS = 32;
    private static final int MOST_SIGNS = 60;
    private static final int MOST_STATES = 4;
    private static final int MOST_TOLD = 1000000000;
    private static final int MOST_EITHER_FOR_EACH = 8;
    private static final int FIRST_QUICK = 2;
    private static final int MOST_QUICK = 4;
    private static final int TICKS = 4;

    private static final int RIGHT = 0;
    private static final int LEFT = 1;
    private static final int EITHER = 2;

    private static final int PLAIN = 0;
    private static final int FLAM = 1;
    private static final int DRAG = 2;
    private static final int DOUBLE = 3;

    private static final int NOT_REFUSED = 0;
    private static final int REFUSED_FOR_FAULT = 1;
    private static final int REFUSED_FOR_LENGTH = 2;

    private final Piece piece;
    /** What would be is tried out here, so that no call needs a new piece. */
    private final Piece trial;
    private final Piece snapshot;
    private final History history;
    private final Pad pad;
    private final Reader reader;
    private final Player player;
    private boolean hasSnapshot;
    private int refusal;

    public LeanSticks() {
        piece = new Piece();
        trial = new Piece();
        snapshot = new Piece();
        history = new History();
        pad = new Pad();
        reader = new Reader();
        player = new Player();
        hasSnapshot = false;
        refusal = NOT_REFUSED;
    }

    // ---- steps

    public int stroke(int step, int hand, boolean accented, int ornament) {
        if (!piece.hasGap(step) || !isHand(hand) || !isOrnament(ornament)) {
            return INVALID_ARGUMENT;
        }
        return write(step, Step.of(hand, accented, ornament));
    }

    public int rest(int step) {
        if (!piece.hasGap(step)) {
            return INVALID_ARGUMENT;
        }
        return write(step, Step.REST);
    }

    public int put(int step, int like) {
        if (!piece.hasGap(step) || !piece.hasStep(like)) {
            return INVALID_ARGUMENT;
        }
        if (piece.isFull()) {
            return LIMIT_REACHED;
        }
        history.remember(piece);
        piece.insert(step, piece.at(like));
        return piece.length;
    }

    public int cut(int from, int to) {
        if (!piece.hasStep(from) || !piece.hasStep(to) || to < from) {
            return INVALID_ARGUMENT;
        }
        history.remember(piece);
        piece.remove(from, to);
        return piece.length;
    }

    public int mirror() {
        history.remember(piece);
        int changed = 0;
        for (int place = 0; place < piece.length; place++) {
            int code = piece.at(place);
            if (Step.isStroke(code) && Step.hand(code) != EITHER) {
                piece.change(place, Step.withHand(code, otherHand(Step.hand(code))));
                changed++;
            }
        }
        return changed;
    }

    public int turn(int steps) {
        if (!piece.hasGap(steps)) {
            return INVALID_ARGUMENT;
        }
        history.remember(piece);
        trial.copy(piece);
        int changed = 0;
        for (int place = 0; place < piece.length; place++) {
            int from = place + steps;
            int code = trial.at(from < trial.length ? from : from - trial.length);
            if (code != piece.at(place)) {
                piece.change(place, code);
                changed++;
            }
        }
        return changed;
    }

    public int lean(boolean toDrags) {
        history.remember(piece);
        int from = toDrags ? FLAM : DRAG;
        int to = toDrags ? DRAG : FLAM;
        int changed = 0;
        for (int place = 0; place < piece.length; place++) {
            int code = piece.at(place);
            if (Step.ornament(code) == from) {
                piece.change(place, Step.withOrnament(code, to));
                changed++;
            }
        }
        return changed;
    }

    public int set(int quick) {
        if (quick < 1 || quick > MOST_QUICK) {
            return INVALID_ARGUMENT;
        }
        history.remember(piece);
        int before = piece.quick;
        piece.quick = quick;
        return before;
    }

    public int decide(boolean best) {
        if (!player.canChoose(piece, best)) {
            return NOT_POSSIBLE;
        }
        history.remember(piece);
        int changed = 0;
        for (int place = 0; place < piece.length; place++) {
            int code = piece.at(place);
            if (Step.isStroke(code) && Step.hand(code) == EITHER) {
                piece.change(place, Step.withHand(code, player.handAt(place)));
                changed++;
            }
        }
        return changed;
    }

    // ---- texts

    public int append(int code) {
        if (code < 33 || code > 126) {
            return INVALID_ARGUMENT;
        }
        if (!pad.add(code)) {
            return LIMIT_REACHED;
        }
        return pad.length;
    }

    public int clear() {
        int length = pad.length;
        pad.length = 0;
        return length;
    }

    public int fault(int way) {
        if (way == 0) {
            return reader.pieceFault(pad);
        }
        return way == 1 ? pad.patternFault() : INVALID_ARGUMENT;
    }

    public int read() {
        if (reader.pieceFault(pad) != NOT_FOUND) {
            refusal = REFUSED_FOR_FAULT;
            return NOT_POSSIBLE;
        }
        trial.length = 0;
        if (!reader.write(pad, trial)) {
            refusal = REFUSED_FOR_LENGTH;
            return LIMIT_REACHED;
        }
        refusal = NOT_REFUSED;
        history.remember(piece);
        piece.copySteps(trial);
        pad.length = 0;
        return piece.length;
    }

    public int why() {
        return refusal;
    }

    public int sign(int place) {
        return place < 0 ? INVALID_ARGUMENT : piece.signAt(place);
    }

    // ---- looks; nothing is changed

    public int step(int step, int what) {
        if (!piece.hasStep(step)) {
            return INVALID_ARGUMENT;
        }
        int code = piece.at(step);
        switch (what) {
            case 0:
                return Step.isStroke(code) ? Step.hand(code) : NOT_FOUND;
            case 1:
                return Step.isAccented(code) ? 1 : 0;
            case 2:
                return Step.ornament(code);
            case 3:
                return Step.blows(code);
            case 4:
                return Step.forces(code);
            case 5:
                return playedHand(step, false);
            case 6:
                return playedHand(step, true);
            default:
                return INVALID_ARGUMENT;
        }
    }

    public int heard(int tick) {
        if (tick < -2 || tick > TICKS * piece.length) {
            return INVALID_ARGUMENT;
        }
        int forces = 0;
        for (int place = 0; place < piece.length; place++) {
            forces += Step.forcesAt(piece.at(place), tick - TICKS * place);
        }
        return forces;
    }

    public int stickings(boolean over, int way) {
        if (way != 0 && way != 1) {
            return INVALID_ARGUMENT;
        }
        if (way == 1 && piece.strokesOf(EITHER) <= MOST_EITHER_FOR_EACH) {
            return player.tellEach(piece, over);
        }
        return player.tell(piece, over);
    }

    public int clash() {
        if (piece.strokesOf(EITHER) > 0) {
            return NOT_POSSIBLE;
        }
        return player.clashOfOnly(piece);
    }

    public int count(int what) {
        switch (what) {
            case 0:
                return piece.length;
            case 1:
                return piece.length - piece.strokes();
            case 2:
                return piece.strokesOf(RIGHT);
            case 3:
                return piece.strokesOf(LEFT);
            case 4:
                return piece.strokesOf(EITHER);
            case 5:
                return piece.accents();
            case 6:
                return piece.strokesWith(FLAM);
            case 7:
                return piece.strokesWith(DRAG);
            case 8:
                return piece.strokesWith(DOUBLE);
            case 9:
                return piece.blows();
            case 10:
                return piece.forces();
            case 11:
                return piece.quick;
            case 12:
                return piece.longestRow();
            case 13:
                return piece.textLength();
            case 14:
                return pad.length;
            case 15:
                return history.length;
            default:
                return INVALID_ARGUMENT;
        }
    }

    public double right(boolean best) {
        int all = piece.forces();
        if (all == 0 || !player.canChoose(piece, best)) {
            return -1.0;
        }
        int ofRight = 0;
        for (int place = 0; place < piece.length; place++) {
            ofRight += Step.forcesOfRight(piece.at(place), player.handAt(place));
        }
        return (double) ofRight / (double) all;
    }

    public int patterns() {
        if (pad.patternFault() != NOT_FOUND || !player.canChoose(piece, true)) {
            return NOT_POSSIBLE;
        }
        int found = 0;
        for (int from = 0; from + pad.length <= piece.length; from++) {
            if (isPatternAt(from)) {
                found++;
            }
        }
        return found;
    }

    // ---- what would be; nothing is changed

    public int ifStroke(int step, int hand, int ornament, int what) {
        if (!piece.hasStep(step) || !isHand(hand) || !isOrnament(ornament) || what < 0 || what > 2) {
            return INVALID_ARGUMENT;
        }
        trial.copy(piece);
        trial.change(step, Step.of(hand, Step.isAccented(piece.at(step)), ornament));
        if (what == 2) {
            return player.canChoose(trial, true) ? player.repeatedHands() : NOT_FOUND;
        }
        return player.tell(trial, what == 1);
    }

    public int quickest() {
        trial.copy(piece);
        for (int quick = MOST_QUICK; quick >= 1; quick--) {
            trial.quick = quick;
            if (player.canChoose(trial, false)) {
                return quick;
            }
        }
        return NOT_FOUND;
    }

    // ---- history, snapshot

    public int undo() {
        if (!history.takeBack(piece)) {
            return NOT_POSSIBLE;
        }
        return history.length;
    }

    public int save() {
        snapshot.copy(piece);
        hasSnapshot = true;
        return piece.length;
    }

    public int restore() {
        if (!hasSnapshot) {
            return NOT_POSSIBLE;
        }
        history.remember(piece);
        piece.copy(snapshot);
        return piece.length;
    }

    // ---- parts of the calls above

    private static boolean isHand(int hand) {
        return hand >= RIGHT && hand <= EITHER;
    }

    private static boolean isOrnament(int ornament) {
        return ornament >= PLAIN && ornament <= DOUBLE;
    }

    private static int otherHand(int hand) {
        return hand == RIGHT ? LEFT : RIGHT;
    }

    private int write(int step, int code) {
        if (step == MOST_STEPS) {
            return LIMIT_REACHED;
        }
        history.remember(piece);
        if (step == piece.length) {
            piece.add(code);
        } else {
            piece.change(step, code);
        }
        return piece.length;
    }

    private int playedHand(int step, boolean best) {
        if (!Step.isStroke(piece.at(step)) || !player.canChoose(piece, best)) {
            return NOT_FOUND;
        }
        return player.handAt(step);
    }

    private boolean isPatternAt(int from) {
        for (int place = 0; place < pad.length; place++) {
            if (!isAsTold(from + place, pad.at(place))) {
                return false;
            }
        }
        return true;
    }

    private boolean isAsTold(int step, int sign) {
        boolean isStroke = Step.isStroke(piece.at(step));
        if (sign == '.') {
            return !isStroke;
        }
        if (sign == 'x') {
            return isStroke;
        }
        return isStroke && player.handAt(step) == (sign == 'R' ? RIGHT : LEFT);
    }

    /** A step is one number, so that pieces are copied and compared without objects for their steps. */
    private static final class Step {
        static final int REST = 0;

        private static final int STROKE = 1;
        private static final int HAND_SHIFT = 1;
        private static final int ACCENT = 8;
        private static final int ORNAMENT_SHIFT = 4;
        private static final int TWO_BITS = 3;

        static int of(int hand, boolean accented, int ornament) {
            int code = STROKE | hand << HAND_SHIFT | ornament << ORNAMENT_SHIFT;
            return accented ? code | ACCENT : code;
        }

        static boolean isStroke(int code) {
            return code != REST;
        }

        static int hand(int code) {
            return code >> HAND_SHIFT & TWO_BITS;
        }

        static boolean isAccented(int code) {
            return (code & ACCENT) != 0;
        }

        static int ornament(int code) {
            return code >> ORNAMENT_SHIFT & TWO_BITS;
        }

        static int withHand(int code, int hand) {
            return of(hand, isAccented(code), ornament(code));
        }

        static int withOrnament(int code, int ornament) {
            return of(hand(code), isAccented(code), ornament);
        }

        /** The blow 0 is the main one. */
        static int blows(int code) {
            if (!isStroke(code)) {
                return 0;
            }
            return blowsOf(ornament(code));
        }

        static int blowsOf(int ornament) {
            if (ornament == PLAIN) {
                return 1;
            }
            return ornament == DRAG ? 3 : 2;
        }

        /** In ticks from the tick of the step. */
        static int offset(int ornament, int blow) {
            if (blow == 0) {
                return 0;
            }
            if (ornament == DOUBLE) {
                return 2;
            }
            return ornament == DRAG && blow == 1 ? -2 : -1;
        }

        static boolean isOfOwnHand(int ornament, int blow) {
            return blow == 0 || ornament == DOUBLE;
        }

        static int force(int code, int blow) {
            if (blow > 0) {
                return 1;
            }
            return isAccented(code) ? 3 : 2;
        }

        static int forces(int code) {
            int sum = 0;
            for (int blow = 0; blow < blows(code); blow++) {
                sum += force(code, blow);
            }
            return sum;
        }

        static int forcesAt(int code, int offset) {
            int sum = 0;
            for (int blow = 0; blow < blows(code); blow++) {
                if (offset(ornament(code), blow) == offset) {
                    sum += force(code, blow);
                }
            }
            return sum;
        }

        static int forcesOfRight(int code, int hand) {
            int sum = 0;
            for (int blow = 0; blow < blows(code); blow++) {
                int blowHand = isOfOwnHand(ornament(code), blow) ? hand : otherHand(hand);
                if (blowHand == RIGHT) {
                    sum += force(code, blow);
                }
            }
            return sum;
        }

        static int textLength(int code) {
            return 1 + (isAccented(code) ? 1 : 0) + (ornament(code) == PLAIN ? 0 : 1);
        }

        static int signAt(int code, int place) {
            if (!isStroke(code)) {
                return '.';
            }
            int left = place;
            if (isAccented(code)) {
                if (left == 0) {
                    return '>';
                }
                left--;
            }
            int ornament = ornament(code);
            if (ornament == FLAM || ornament == DRAG) {
                if (left == 0) {
                    return ornament == FLAM ? 'f' : 'd';
                }
                left--;
            }
            return left == 0 ? handSign(hand(code)) : '*';
        }

        private static int handSign(int hand) {
            if (hand == EITHER) {
                return 'x';
            }
            return hand == RIGHT ? 'R' : 'L';
        }
    }

    /** What a change records and a snapshot holds: the steps and the setting. */
    private static final class Piece {
        private final int[] steps;
        private int length;
        private int quick;

        Piece() {
            steps = new int[MOST_STEPS];
            length = 0;
            quick = FIRST_QUICK;
        }

        boolean hasStep(int place) {
            return place >= 0 && place < length;
        }

        boolean hasGap(int place) {
            return place >= 0 && place <= length;
        }

        boolean isFull() {
            return length >= steps.length;
        }

        /** Beside the piece there are rests: nothing can clash with them. */
        int at(int place) {
            return hasStep(place) ? steps[place] : Step.REST;
        }

        void change(int place, int code) {
            if (hasStep(place)) {
                steps[place] = code;
            }
        }

        boolean add(int code) {
            if (isFull()) {
                return false;
            }
            steps[length] = code;
            length++;
            return true;
        }

        void insert(int place, int code) {
            if (!hasGap(place) || !add(code)) {
                return;
            }
            for (int later = length - 1; later > place; later--) {
                steps[later] = steps[later - 1];
            }
            steps[place] = code;
        }

        void remove(int from, int to) {
            if (!hasStep(from) || !hasStep(to) || to < from) {
                return;
            }
            int cut = to - from + 1;
            for (int place = from; place + cut < length; place++) {
                steps[place] = steps[place + cut];
            }
            length -= cut;
        }

        void copy(Piece other) {
            copySteps(other);
            quick = other.quick;
        }

        void copySteps(Piece other) {
            length = other.length;
            for (int place = 0; place < length; place++) {
                steps[place] = other.steps[place];
            }
        }

        int strokes() {
            int sum = 0;
            for (int place = 0; place < length; place++) {
                sum += Step.isStroke(steps[place]) ? 1 : 0;
            }
            return sum;
        }

        int strokesOf(int hand) {
            int sum = 0;
            for (int place = 0; place < length; place++) {
                int code = steps[place];
                sum += Step.isStroke(code) && Step.hand(code) == hand ? 1 : 0;
            }
            return sum;
        }

        int strokesWith(int ornament) {
            int sum = 0;
            for (int place = 0; place < length; place++) {
                int code = steps[place];
                sum += Step.isStroke(code) && Step.ornament(code) == ornament ? 1 : 0;
            }
            return sum;
        }

        int accents() {
            int sum = 0;
            for (int place = 0; place < length; place++) {
                sum += Step.isAccented(steps[place]) ? 1 : 0;
            }
            return sum;
        }

        int blows() {
            int sum = 0;
            for (int place = 0; place < length; place++) {
                sum += Step.blows(steps[place]);
            }
            return sum;
        }

        int forces() {
            int sum = 0;
            for (int place = 0; place < length; place++) {
                sum += Step.forces(steps[place]);
            }
            return sum;
        }

        int longestRow() {
            int longest = 0;
            int row = 0;
            for (int place = 0; place < length; place++) {
                row = Step.isStroke(steps[place]) ? row + 1 : 0;
                longest = Math.max(longest, row);
            }
            return longest;
        }

        int textLength() {
            int sum = 0;
            for (int place = 0; place < length; place++) {
                sum += Step.textLength(steps[place]);
            }
            return sum;
        }

        int signAt(int textPlace) {
            int left = textPlace;
            for (int place = 0; place < length; place++) {
                int signs = Step.textLength(steps[place]);
                if (left < signs) {
                    return Step.signAt(steps[place], left);
                }
                left -= signs;
            }
            return NOT_FOUND;
        }
    }

    private static final class History {
        private final Piece[] states;
        private int length;

        History() {
            states = new Piece[MOST_STATES];
            for (int place = 0; place < states.length; place++) {
                states[place] = new Piece();
            }
            length = 0;
        }

        void remember(Piece piece) {
            if (length >= states.length) {
                dropOldest();
            }
            states[length].copy(piece);
            length++;
        }

        boolean takeBack(Piece piece) {
            if (length <= 0) {
                return false;
            }
            length--;
            piece.copy(states[length]);
            return true;
        }

        /** The dropped state's room goes behind the others and is used for the next one. */
        private void dropOldest() {
            Piece oldest = states[0];
            for (int place = 1; place < states.length; place++) {
                states[place - 1] = states[place];
            }
            states[states.length - 1] = oldest;
            length = states.length - 1;
        }
    }

    private static final class Pad {
        private final int[] signs;
        private int length;

        Pad() {
            signs = new int[MOST_SIGNS];
            length = 0;
        }

        boolean add(int sign) {
            if (length >= signs.length) {
                return false;
            }
            signs[length] = sign;
            length++;
            return true;
        }

        int at(int place) {
            return place >= 0 && place < length ? signs[place] : 0;
        }

        int patternFault() {
            for (int place = 0; place < length; place++) {
                int sign = signs[place];
                if (sign != '.' && !Reader.isHandSign(sign)) {
                    return place;
                }
            }
            return length == 0 ? 0 : NOT_FOUND;
        }
    }

    /** Reads pads as pieces. */
    private static final class Reader {
        private static final int WRONG = -1;
        private static final int ITEM_DUE = 0;
        private static final int ITEM_ENDED = 1;
        private static final int STAR_FREE = 2;
        private static final int ACCENT_READ = 3;
        private static final int HAND_DUE = 4;
        private static final int OPENING_DUE = 5;

        /** Of each repeat that is open: its first step, and how many times it is due. */
        private final int[] starts;
        private final int[] times;

        Reader() {
            starts = new int[MOST_SIGNS];
            times = new int[MOST_SIGNS];
        }

        static boolean isHandSign(int sign) {
            return sign == 'R' || sign == 'L' || sign == 'x';
        }

        int pieceFault(Pad pad) {
            int state = ITEM_DUE;
            int depth = 0;
            for (int place = 0; place < pad.length; place++) {
                int sign = pad.at(place);
                state = stateBehind(state, sign, depth);
                if (state == WRONG) {
                    return place;
                }
                if (sign == '(') {
                    depth++;
                } else if (sign == ')') {
                    depth--;
                }
            }
            boolean isComplete = depth == 0 && (state == ITEM_ENDED || state == STAR_FREE);
            return isComplete ? NOT_FOUND : pad.length;
        }

        private static int stateBehind(int state, int sign, int depth) {
            switch (state) {
                case OPENING_DUE:
                    return sign == '(' ? ITEM_DUE : WRONG;
                case HAND_DUE:
                    return isHandSign(sign) ? ITEM_ENDED : WRONG;
                case ACCENT_READ:
                    return stateInStroke(sign);
                case STAR_FREE:
                    return sign == '*' ? ITEM_ENDED : stateBehindItem(sign, depth);
                case ITEM_ENDED:
                    return stateBehindItem(sign, depth);
                default:
                    return stateInItem(sign);
            }
        }

        private static int stateBehindItem(int sign, int depth) {
            if (sign == ')') {
                return depth > 0 ? ITEM_ENDED : WRONG;
            }
            return stateInItem(sign);
        }

        private static int stateInItem(int sign) {
            if (sign == '.') {
                return ITEM_ENDED;
            }
            if (sign == '>') {
                return ACCENT_READ;
            }
            return isTimes(sign) ? OPENING_DUE : stateInStroke(sign);
        }

        private static int stateInStroke(int sign) {
            if (sign == 'f' || sign == 'd') {
                return HAND_DUE;
            }
            return isHandSign(sign) ? STAR_FREE : WRONG;
        }

        private static boolean isTimes(int sign) {
            return sign >= '2' && sign <= '9';
        }

        /** Writes the steps of a pad without a fault; false if the piece has no room for them. */
        boolean write(Pad pad, Piece piece) {
            boolean isAccented = false;
            int ornament = PLAIN;
            int depth = 0;
            boolean fits = true;
            for (int place = 0; place < pad.length && fits; place++) {
                int sign = pad.at(place);
                if (sign == '>') {
                    isAccented = true;
                } else if (sign == 'f' || sign == 'd') {
                    ornament = sign == 'f' ? FLAM : DRAG;
                } else if (isHandSign(sign)) {
                    fits = piece.add(Step.of(handOf(sign), isAccented, ornament));
                    isAccented = false;
                    ornament = PLAIN;
                } else if (sign == '*') {
                    makeLastDouble(piece);
                } else if (sign == '.') {
                    fits = piece.add(Step.REST);
                } else if (sign == '(') {
                    open(depth, piece.length, pad.at(place - 1) - '0');
                    depth++;
                } else if (sign == ')') {
                    depth--;
                    fits = repeat(depth, piece);
                }
            }
            return fits;
        }

        private static int handOf(int sign) {
            if (sign == 'x') {
                return EITHER;
            }
            return sign == 'R' ? RIGHT : LEFT;
        }

        private static void makeLastDouble(Piece piece) {
            int last = piece.length - 1;
            piece.change(last, Step.withOrnament(piece.at(last), DOUBLE));
        }

        private void open(int depth, int start, int howOften) {
            if (depth >= 0 && depth < starts.length && depth < times.length) {
                starts[depth] = start;
                times[depth] = howOften;
            }
        }

        private boolean repeat(int depth, Piece piece) {
            if (depth < 0 || depth >= starts.length || depth >= times.length) {
                return false;
            }
            int end = piece.length;
            for (int time = 1; time < times[depth]; time++) {
                for (int place = starts[depth]; place < end; place++) {
                    if (!piece.add(piece.at(place))) {
                        return false;
                    }
                }
            }
            return true;
        }
    }

    /** Finds and tells stickings; its rows are used again by every call. */
    private static final class Player {
        /** No stroke at a step, or none before it. */
        private static final int NO_HAND = 3;
        private static final int HANDS_BEFORE = 4;
        private static final int ORNAMENTS = 4;
        /** More than a piece has strokes. */
        private static final int IMPOSSIBLE = 1000;

        /** By the ornaments of two steps, and whether their hands are alike: how near blows of one hand come. */
        private final int[] nearest;
        private final int[] own;
        private final boolean[] clashesAlike;
        private final boolean[] clashesUnlike;
        /** The sticking that was chosen, or is looked at. */
        private final int[] hands;
        /** By a step and the hand of the stroke before: the fewest repeated hands from there on. */
        private final int[] fewest;
        private int length;

        Player() {
            nearest = new int[ORNAMENTS * ORNAMENTS * 2];
            own = new int[MOST_STEPS];
            clashesAlike = new boolean[MOST_STEPS];
            clashesUnlike = new boolean[MOST_STEPS];
            hands = new int[MOST_STEPS];
            fewest = new int[(MOST_STEPS + 1) * HANDS_BEFORE];
            length = 0;
            for (int place = 0; place < nearest.length; place++) {
                nearest[place] = nearestOf(place >> 3, place >> 1 & 3, (place & 1) == 1);
            }
        }

        private static int nearestOf(int before, int ornament, boolean areAlike) {
            int near = TICKS;
            for (int blow = 0; blow < Step.blowsOf(before); blow++) {
                for (int next = 0; next < Step.blowsOf(ornament); next++) {
                    boolean isOneHand = Step.isOfOwnHand(before, blow) == Step.isOfOwnHand(ornament, next);
                    if (isOneHand == areAlike) {
                        near = Math.min(near, TICKS + Step.offset(ornament, next) - Step.offset(before, blow));
                    }
                }
            }
            return near;
        }

        /**
         * Only steps that follow one another can clash: blows of other ones lie 4 ticks apart or
         * more, and QUICK is at most 4. Over and over, the first step follows the last one.
         */
        private void load(Piece piece, boolean over) {
            length = Math.min(piece.length, MOST_STEPS);
            int before = over ? piece.at(length - 1) : Step.REST;
            for (int step = 0; step < length; step++) {
                int code = piece.at(step);
                own[step] = Step.isStroke(code) ? Step.hand(code) : NO_HAND;
                clashesAlike[step] = comesNearer(before, code, true, piece.quick);
                clashesUnlike[step] = comesNearer(before, code, false, piece.quick);
                before = code;
            }
        }

        private boolean comesNearer(int before, int code, boolean areAlike, int quick) {
            if (!Step.isStroke(before) || !Step.isStroke(code)) {
                return false;
            }
            int place = Step.ornament(before) << 3 | Step.ornament(code) << 1 | (areAlike ? 1 : 0);
            return place >= 0 && place < nearest.length && nearest[place] < quick;
        }

        private boolean collides(int step, boolean areAlike) {
            if (step < 0 || step >= length) {
                return false;
            }
            return areAlike ? clashesAlike[step] : clashesUnlike[step];
        }

        private boolean fits(int step, int handBefore, int hand) {
            if (step < 0 || step >= length) {
                return false;
            }
            boolean isFree = own[step] == EITHER || own[step] == hand;
            return isFree && !collides(step, handBefore == hand);
        }

        // ---- how many

        int tell(Piece piece, boolean over) {
            if (piece.strokes() == 0) {
                return 1;
            }
            load(piece, over);
            // Over and over, the hand ahead of the piece is the one that it ends with; else it clashes with nothing.
            long found = tellBetween(RIGHT, RIGHT) + (over ? tellBetween(LEFT, LEFT) : tellBetween(RIGHT, LEFT));
            return (int) Math.min(found, MOST_TOLD);
        }

        /** How many stickings end with a hand, when another hand, or the same, is ahead of the piece. */
        private long tellBetween(int ahead, int end) {
            long byRight = ahead == RIGHT ? 1 : 0;
            long byLeft = ahead == LEFT ? 1 : 0;
            for (int step = 0; step < length; step++) {
                if (own[step] != NO_HAND) {
                    long nextByRight = tellNext(step, RIGHT, byRight, byLeft);
                    byLeft = tellNext(step, LEFT, byRight, byLeft);
                    byRight = nextByRight;
                }
            }
            return end == RIGHT ? byRight : byLeft;
        }

        private long tellNext(int step, int hand, long byRight, long byLeft) {
            return (fits(step, RIGHT, hand) ? byRight : 0) + (fits(step, LEFT, hand) ? byLeft : 0);
        }

        /** For a piece with few strokes of either hand: 8 at most are given hands. */
        int tellEach(Piece piece, boolean over) {
            load(piece, over);
            int either = Math.min(piece.strokesOf(EITHER), MOST_EITHER_FOR_EACH);
            int found = 0;
            for (int number = 0; number < 1 << either; number++) {
                take(number);
                if (firstClash() == NOT_FOUND) {
                    found++;
                }
            }
            return found;
        }

        /** For a piece without strokes of either hand: there is one sticking to look at. */
        int clashOfOnly(Piece piece) {
            load(piece, false);
            take(0);
            return firstClash();
        }

        /** Takes the sticking whose hands for the strokes of either hand are the bits of a number. */
        private void take(int number) {
            int bits = number;
            for (int step = 0; step < length; step++) {
                hands[step] = own[step];
                if (own[step] == EITHER) {
                    hands[step] = bits & 1;
                    bits >>= 1;
                }
            }
        }

        private int firstClash() {
            int before = handAt(length - 1);
            for (int step = 0; step < length; step++) {
                if (collides(step, before == hands[step])) {
                    return step;
                }
                before = hands[step];
            }
            return NOT_FOUND;
        }

        // ---- which one

        /** Chooses the best sticking or the first one, if there is one that can be played. */
        boolean canChoose(Piece piece, boolean best) {
            load(piece, false);
            int price = best ? 1 : 0;
            fillFewest(price);
            if (fewestFrom(0, NO_HAND) >= IMPOSSIBLE) {
                return false;
            }
            int before = NO_HAND;
            for (int step = 0; step < length; step++) {
                if (own[step] != NO_HAND) {
                    int withRight = fewestWith(step, before, RIGHT, price);
                    before = withRight <= fewestWith(step, before, LEFT, price) ? RIGHT : LEFT;
                    hands[step] = before;
                }
            }
            return true;
        }

        int handAt(int step) {
            return step >= 0 && step < length ? hands[step] : NO_HAND;
        }

        /** Of the best sticking, when it was chosen. */
        int repeatedHands() {
            return fewestFrom(0, NO_HAND);
        }

        private void fillFewest(int price) {
            for (int before = 0; before < HANDS_BEFORE; before++) {
                keepFewest(length, before, 0);
            }
            for (int step = length - 1; step >= 0; step--) {
                for (int before = 0; before < HANDS_BEFORE; before++) {
                    if (own[step] == NO_HAND) {
                        keepFewest(step, before, fewestFrom(step + 1, before));
                    } else {
                        int withRight = fewestWith(step, before, RIGHT, price);
                        int withLeft = fewestWith(step, before, LEFT, price);
                        keepFewest(step, before, Math.min(withRight, withLeft));
                    }
                }
            }
        }

        /** With a price of 0 for a repeated hand, 0 tells only that a sticking can be played. */
        private int fewestWith(int step, int before, int hand, int price) {
            if (!fits(step, before, hand)) {
                return IMPOSSIBLE;
            }
            int repeated = before == hand ? price : 0;
            return Math.min(IMPOSSIBLE, fewestFrom(step + 1, hand) + repeated);
        }

        private int fewestFrom(int step, int before) {
            int place = step * HANDS_BEFORE + before;
            return place >= 0 && place < fewest.length ? fewest[place] : IMPOSSIBLE;
        }

        private void keepFewest(int step, int before, int number) {
            int place = step * HANDS_BEFORE + before;
            if (place >= 0 && place < fewest.length) {
                fewest[place] = number;
            }
        }
    }
}
