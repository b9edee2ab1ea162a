/**
 * Numbers said in words and heard in noise: of each word it is known which ones it may have been.
 * The document DOC.md tells every term that is used here in capitals.
 *
 * <p>All rows are made with the object and used again by every call, so that a run of calls makes no
 * more of them.
 */
public final class HeardNumbers {
    public static final int BAD = -1, NOT = -2, FULL = -3, NONE = -4, NULL = -11, CAST = -12, INDEX = -13, SIZE = -14;

    private static final int SLOTS = 8, CANDIDATES = 4, CELLS = SLOTS * CANDIDATES, READINGS = 65536;
    private static final int WORDS = 32, COSTS = 10, ABOVE_COSTS = SLOTS * COSTS, KINDS = 5, TOP_SLACK = 20, TOP_TURNS = 40, TOP_NUMBER = 999999;
    private static final int NOISE = 0, HUNDRED = 28, THOUSAND = 29, AND = 30, STOP = 31;
    private static final int NUMBERS = SLOTS / 2, TOP_MEANT = 6, KEPT = 60, KNOWN = 8, TAPE = 120, FAULTS = -20;
    private static final int SHEETS = 4, LANES = 4, ITEMS = 24;

    private final Heard now = new Heard();
    private final Heard draft = new Heard();
    private final Past past = new Past();
    private final Heard imageNow = new Heard();
    private final Past imagePast = new Past();
    private final Script script = new Script();
    private final Survey survey = new Survey(now);
    private final Sheet[] sheets = new Sheet[SHEETS];
    private boolean imaged;

    public HeardNumbers() {
        for (int i = 0; i < SHEETS; i++) {
            sheets[i] = new Sheet();
        }
    }

    // ---- 1 slots

    public int type(int letter) {
        if (letter < 32 || letter > 126) {
            return BAD;
        }
        return script.write((char) letter) ? script.length : FULL;
    }

    public int words() {
        int fault = script.read(draft);
        script.length = 0;
        if (fault >= 0) {
            return FAULTS - fault;
        }
        return tellAnew();
    }

    public int say(int v) {
        if (v < 1 || v > TOP_NUMBER) {
            return BAD;
        }
        return draft.spell(v) ? tellAnew() : FULL;
    }

    public int slot(int slot, int k, int what) {
        if (!now.isSlot(slot) || k < -1 || what < 0 || what > 1) {
            return BAD;
        }
        if (k == -1) {
            return now.filled[slot];
        }
        if (k >= now.filled[slot]) {
            return NONE;
        }
        int cell = slot * CANDIDATES + k;
        return what == 0 ? now.word[cell] : now.cost[cell];
    }

    public int count(int what) {
        switch (what) {
            case 0:
                return now.size;
            case 1:
                return now.kind;
            case 2:
                return now.slack;
            case 3:
                return survey.saidOnes();
            case 4:
                return survey.soundOnes();
            case 5:
                return survey.countedOnes();
            case 6:
                return survey.lookAt();
            case 7:
                return survey.questions();
            case 8:
                return survey.nextCost();
            case 9:
                return survey.spoilt();
            case 10:
                return past.many;
            default:
                return BAD;
        }
    }

    // ---- what is done

    public int hear(int word, int cost) {
        if (!isWord(word) || !isCost(cost)) {
            return BAD;
        }
        if (now.size >= SLOTS) {
            return FULL;
        }
        keepForUndo();
        now.grow(word, cost);
        return now.size;
    }

    public int also(int slot, int word, int cost) {
        if (!now.isSlot(slot) || !isWord(word) || !isCost(cost)) {
            return BAD;
        }
        if (now.find(slot, word) >= 0) {
            return NOT;
        }
        if (now.filled[slot] >= CANDIDATES) {
            return FULL;
        }
        keepForUndo();
        now.widen(slot, word, cost);
        return now.filled[slot];
    }

    public int lose(int slot) {
        if (!now.isSlot(slot)) {
            return BAD;
        }
        keepForUndo();
        now.cut(slot);
        return now.size;
    }

    public int settle(int slot, int word) {
        if (!now.isSlot(slot) || !isWord(word)) {
            return BAD;
        }
        int k = now.find(slot, word);
        int gone = now.filled[slot] - 1;
        if (k < 0 || gone == 0) {
            return NOT;
        }
        keepForUndo();
        now.narrowTo(slot, k);
        return gone;
    }

    public int check(int kind) {
        if (kind < 0 || kind >= KINDS) {
            return BAD;
        }
        int was = now.kind;
        if (was == kind) {
            return NOT;
        }
        keepForUndo();
        now.kind = kind;
        return was;
    }

    public int slack(int n) {
        if (n < 0 || n > TOP_SLACK) {
            return BAD;
        }
        int was = now.slack;
        if (was == n) {
            return NOT;
        }
        keepForUndo();
        now.slack = n;
        return was;
    }

    public int storm(int n) {
        if (n < 1 || n > TOP_TURNS) {
            return BAD;
        }
        for (int turn = 0; turn < n; turn++) {
            keepForUndo();
            now.turn();
        }
        return now.candidates();
    }

    public int undo() {
        if (past.many == 0) {
            return NONE;
        }
        past.giveBack(now);
        survey.forget();
        return past.many;
    }

    public int seed(int v) {
        if (v < 0) {
            return BAD;
        }
        int was = now.draw;
        now.draw = v;
        return was;
    }

    // ---- 2 looked for

    public int best(int k) {
        return k < -2 ? BAD : survey.bestTells(k);
    }

    public int taken(int slot) {
        return now.isSlot(slot) ? survey.bestWord(slot) : BAD;
    }

    public long open(int slot) {
        return now.isSlot(slot) ? survey.countedWords(slot) : BAD;
    }

    public int counted(int k, int what) {
        return k < 0 || what < 0 || what > 1 ? BAD : survey.countedTells(k, what == 1);
    }

    public long likely(int v, int what) {
        return v < 0 || v > TOP_NUMBER || what < 0 || what > 1 ? BAD : survey.likelihood(v, what == 1);
    }

    public int image() {
        imageNow.take(now);
        imagePast.take(past);
        imaged = true;
        return 1;
    }

    public int restore() {
        if (!imaged) {
            return NONE;
        }
        now.take(imageNow);
        past.take(imagePast);
        survey.forget();
        return 1;
    }

    // ---- 3 sheets 0 .. 3: nothing (at first), or a row of a LANE

    public int meant(int sheet, int lane, int i, int n) {
        if (!isSheet(sheet) || !isLane(lane) || n < 1 || n > TOP_MEANT) {
            return BAD;
        }
        Sheet row = sheets[sheet];
        int wrong = row.refusal(lane, i, n);
        return wrong != 0 ? wrong : survey.kindsMeant(row, i, n);
    }

    public int film(int sheet, int lane, int i) {
        if (!isSheet(sheet) || !isLane(lane)) {
            return BAD;
        }
        int n = survey.bestTells(-2);
        if (n < 0) {
            return NONE;
        }
        Sheet row = sheets[sheet];
        int wrong = row.refusal(lane, i, n);
        if (wrong != 0) {
            return wrong;
        }
        for (int k = 0; k < n; k++) {
            row.put(i + k, survey.bestTells(k));
        }
        return n;
    }

    public int sheet(int sheet, int lane, int n) {
        if (!isSheet(sheet) || !isLane(lane) || n > ITEMS) {
            return BAD;
        }
        if (n < 0) {
            return SIZE;
        }
        sheets[sheet].renew(lane, n);
        return n;
    }

    public int drop(int sheet) {
        if (!isSheet(sheet)) {
            return BAD;
        }
        Sheet row = sheets[sheet];
        if (row.lane < 0) {
            return NULL;
        }
        int had = row.size;
        row.renew(Sheet.NOTHING, 0);
        return had;
    }

    public int item(int sheet, int lane, int i, long v) {
        if (!isSheet(sheet) || !isLane(lane)) {
            return BAD;
        }
        Sheet row = sheets[sheet];
        int wrong = row.refusal(lane, i, 1);
        if (wrong != 0) {
            return wrong;
        }
        row.put(i, v);
        return 1;
    }

    public int copy(int from, int i, int to, int j, int n) {
        if (!isSheet(from) || !isSheet(to)) {
            return BAD;
        }
        Sheet source = sheets[from];
        Sheet target = sheets[to];
        if (source.lane < 0 || target.lane < 0) {
            return NULL;
        }
        if (source.lane != target.lane) {
            return CAST;
        }
        if (source.lacks(i, n) || target.lacks(j, n)) {
            return INDEX;
        }
        System.arraycopy(source.items, i, target.items, j, n);
        return n;
    }

    // ---- what several calls share

    private static boolean isWord(int word) {
        return word >= 0 && word < WORDS;
    }

    private static boolean isCost(int cost) {
        return cost >= 0 && cost < COSTS;
    }

    private static boolean isSheet(int sheet) {
        return sheet >= 0 && sheet < SHEETS;
    }

    private static boolean isLane(int lane) {
        return lane >= 0 && lane < LANES;
    }

    /** Stands ahead of every change that may be UNDONE. */
    private void keepForUndo() {
        past.keep(now);
        survey.forget();
    }

    /** The draft becomes what is heard; what was done to the old SLOTS can't be UNDONE in the new ones. */
    private int tellAnew() {
        now.takeSlots(draft);
        past.many = 0;
        survey.forget();
        return now.size;
    }

    /** What may be UNDONE as a whole: SLOTS, CHECK, SLACK, THE DRAW. A SLOT has four cells, one a CANDIDATE. */
    static final class Heard {
        final int[] filled = new int[SLOTS];
        final int[] word = new int[CELLS];
        final int[] cost = new int[CELLS];
        int size;
        int kind;
        int slack;
        int draw = 1;

        void take(Heard other) {
            takeSlots(other);
            kind = other.kind;
            slack = other.slack;
            draw = other.draw;
        }

        void takeSlots(Heard other) {
            System.arraycopy(other.filled, 0, filled, 0, SLOTS);
            System.arraycopy(other.word, 0, word, 0, CELLS);
            System.arraycopy(other.cost, 0, cost, 0, CELLS);
            size = other.size;
        }

        boolean isSlot(int slot) {
            return slot >= 0 && slot < size;
        }

        int find(int slot, int wanted) {
            if (!isSlot(slot)) {
                return -1;
            }
            for (int k = 0; k < filled[slot]; k++) {
                if (word[slot * CANDIDATES + k] == wanted) {
                    return k;
                }
            }
            return -1;
        }

        int candidates() {
            int all = 0;
            for (int i = 0; i < size; i++) {
                all += filled[i];
            }
            return all;
        }

        boolean isLastFull() {
            return size > 0 && filled[size - 1] >= CANDIDATES;
        }

        boolean grow(int w, int c) {
            if (size >= SLOTS) {
                return false;
            }
            filled[size] = 0;
            size++;
            return widen(size - 1, w, c);
        }

        boolean widen(int slot, int w, int c) {
            if (!isSlot(slot) || filled[slot] >= CANDIDATES) {
                return false;
            }
            int cell = slot * CANDIDATES + filled[slot];
            word[cell] = w;
            cost[cell] = c;
            filled[slot]++;
            return true;
        }

        void cut(int slot) {
            if (!isSlot(slot)) {
                return;
            }
            int behind = size - 1 - slot;
            int cell = slot * CANDIDATES;
            System.arraycopy(filled, slot + 1, filled, slot, behind);
            System.arraycopy(word, cell + CANDIDATES, word, cell, behind * CANDIDATES);
            System.arraycopy(cost, cell + CANDIDATES, cost, cell, behind * CANDIDATES);
            size--;
        }

        void narrowTo(int slot, int k) {
            if (!isSlot(slot) || k < 0 || k >= filled[slot]) {
                return;
            }
            int cell = slot * CANDIDATES;
            word[cell] = word[cell + k];
            cost[cell] = cost[cell + k];
            filled[slot] = 1;
        }

        /** A turn of a STORM. */
        void turn() {
            // int wraps round above 31 bits, which the mask cuts off anyway
            draw = (draw * 1103515245 + 12345) & 0x7fffffff;
            if (size == 0) {
                return;
            }
            int x = draw / 65536;
            int slot = x % size;
            int w = x / 8 % WORDS;
            if (find(slot, w) < 0) {
                widen(slot, w, x / 256 % COSTS);
            }
        }

        /** False, if the number needs more SLOTS than there may be. */
        boolean spell(int v) {
            size = 0;
            if (v >= 1000 && !(spellSmall(v / 1000) && grow(THOUSAND, 0))) {
                return false;
            }
            return spellSmall(v % 1000);
        }

        private boolean spellSmall(int v) {
            if (v >= 100 && !(grow(v / 100, 0) && grow(HUNDRED, 0))) {
                return false;
            }
            int low = v % 100;
            if (low >= 20) {
                return grow(Script.tensWord(low), 0) && (low % 10 == 0 || grow(low % 10, 0));
            }
            return low == 0 || grow(low, 0);
        }
    }

    /** What was ahead of the latest changes: a ring, so that the oldest one makes room for a new one. */
    static final class Past {
        final Heard[] ring = new Heard[KNOWN];
        int first;
        int many;

        Past() {
            for (int i = 0; i < KNOWN; i++) {
                ring[i] = new Heard();
            }
        }

        void keep(Heard now) {
            if (many == KNOWN) {
                first = (first + 1) % KNOWN;
                many--;
            }
            ring[(first + many) % KNOWN].take(now);
            many++;
        }

        void giveBack(Heard now) {
            if (many > 0) {
                many--;
                now.take(ring[(first + many) % KNOWN]);
            }
        }

        void take(Past other) {
            for (int i = 0; i < KNOWN; i++) {
                ring[i].take(other.ring[i]);
            }
            first = other.first;
            many = other.many;
        }
    }

    /** THE TAPE, and how the TEXT on it is read. */
    static final class Script {
        private static final int FINE = -1;
        final char[] tape = new char[TAPE];
        int length;
        private int at;

        boolean write(char letter) {
            if (length >= TAPE) {
                return false;
            }
            tape[length] = letter;
            length++;
            return true;
        }

        /** Answers the place of the FAULT, or a number below 0. */
        int read(Heard into) {
            into.size = 0;
            at = 0;
            if (isAtEnd()) {
                return FINE;
            }
            boolean opens = true;
            for (int left = CELLS; left > 0; left--) {
                int fault = readCandidate(into, opens);
                if (fault != FINE || isAtEnd()) {
                    return fault;
                }
                opens = tape[at] == ';';
                if (opens ? into.size >= SLOTS : tape[at] != ',' || into.isLastFull()) {
                    return at;
                }
                at++;
            }
            return at;
        }

        private int readCandidate(Heard into, boolean opens) {
            if (isAtEnd()) {
                return length;
            }
            int start = at;
            int letter = tape[at];
            at++;
            int word = isDigit(letter) ? wordOfValue(valueFrom(letter - '0')) : wordOfLetter(letter);
            if (word < 0 || !opens && into.find(into.size - 1, word) >= 0) {
                return start;
            }
            int cost = 0;
            if (!isAtEnd() && tape[at] == ':') {
                at++;
                if (isAtEnd() || !isDigit(tape[at])) {
                    return at;
                }
                cost = tape[at] - '0';
                at++;
            }
            if (opens) {
                into.grow(word, cost);
            } else {
                into.widen(into.size - 1, word, cost);
            }
            return FINE;
        }

        /** A third digit is left where it is: nothing lets it stand there. */
        private int valueFrom(int first) {
            if (at >= length || !isDigit(tape[at])) {
                return first;
            }
            int value = first * 10 + tape[at] - '0';
            at++;
            return value;
        }

        /** Passes over blanks first. */
        private boolean isAtEnd() {
            while (at < length && tape[at] == ' ') {
                at++;
            }
            return at >= length;
        }

        private static boolean isDigit(int letter) {
            return letter >= '0' && letter <= '9';
        }

        private static int wordOfValue(int value) {
            if (value >= 1 && value <= 19) {
                return value;
            }
            return value >= 20 && value % 10 == 0 ? tensWord(value) : -1;
        }

        /** The WORD of the tens of 20 .. 99. */
        static int tensWord(int value) {
            return 18 + value / 10;
        }

        private static int wordOfLetter(int letter) {
            switch (letter) {
                case 'h':
                    return HUNDRED;
                case 't':
                    return THOUSAND;
                case 'a':
                    return AND;
                case 's':
                    return STOP;
                case 'n':
                    return NOISE;
                default:
                    return -1;
            }
        }
    }

    /** The KINDS of CHECK. */
    static final class Check {
        private static final int TOTAL = 1, RISING = 2, ENDING = 3, STEADY = 4;

        static boolean isKept(int kind, int[] number, int many) {
            if (many < 1 || many > number.length) {
                return false;
            }
            switch (kind) {
                case TOTAL:
                    return many >= 2 && number[many - 1] == others(number, many);
                case RISING:
                    return rises(number, many);
                case ENDING:
                    return many >= 2 && number[many - 1] % 100 == others(number, many) % 100;
                case STEADY:
                    return rises(number, many) && isSteady(number, many);
                default:
                    return true;
            }
        }

        private static int others(int[] number, int many) {
            int sum = 0;
            for (int i = 0; i < many - 1; i++) {
                sum += number[i];
            }
            return sum;
        }

        private static boolean rises(int[] number, int many) {
            for (int i = 1; i < many; i++) {
                if (number[i] <= number[i - 1]) {
                    return false;
                }
            }
            return true;
        }

        private static boolean isSteady(int[] number, int many) {
            for (int i = 2; i < many; i++) {
                if (number[i] - number[i - 1] != number[1] - number[0]) {
                    return false;
                }
            }
            return true;
        }
    }

    /**
     * Goes from one READING that is SAID to the next, in order. Row element d tells how things stand ahead
     * of SLOT d, so that READINGS which begin alike share the work for that.
     */
    static final class Walk {
        // where in a NUMBER its words have come to; CLOSED: a LOW that nothing can be put to
        private static final int START = 0, DIGIT = 1, CLOSED = 2, TENS = 3, HUNDREDS = 4, JOINED = 5, THOUSANDS = 6;
        private static final int TOP_STEPS = 1000000;

        private final Heard heard;
        private final int[] tried = new int[SLOTS + 1];
        private final int[] place = new int[SLOTS + 1];
        private final int[] thousands = new int[SLOTS + 1];
        private final int[] small = new int[SLOTS + 1];
        private final int[] ended = new int[SLOTS + 1];
        private final int[] costs = new int[SLOTS + 1];
        private final long[] weights = new long[SLOTS + 1];
        private int depth;
        // of the READING that was found
        final int[] number = new int[NUMBERS];
        int many;
        int cost;
        long weight;

        Walk(Heard heard) {
            this.heard = heard;
        }

        void begin() {
            depth = 0;
            tried[0] = 0;
            place[0] = START;
            thousands[0] = 0;
            small[0] = 0;
            ended[0] = 0;
            costs[0] = 0;
            weights[0] = 1;
        }

        boolean step() {
            for (int left = TOP_STEPS; left > 0 && depth >= 0; left--) {
                if (depth >= heard.size) {
                    boolean said = finish(depth);
                    depth--;
                    if (said) {
                        return true;
                    }
                } else if (tried[depth] >= heard.filled[depth]) {
                    depth--;
                } else {
                    int k = tried[depth];
                    tried[depth] = k + 1;
                    if (enter(depth, k)) {
                        depth++;
                        tried[depth] = 0;
                    }
                }
            }
            return false;
        }

        /** Which CANDIDATE of a SLOT the READING took that step found. */
        int pick(int slot) {
            return tried[slot] - 1;
        }

        /** Is the READING that takes these CANDIDATES SAID? The walk itself can't go on behind it. */
        boolean isSaid(int[] picks) {
            begin();
            for (int d = 0; d < heard.size; d++) {
                if (!enter(d, picks[d])) {
                    return false;
                }
            }
            return finish(heard.size);
        }

        private boolean finish(int d) {
            if (!isWhole(d) || ended[d] >= NUMBERS) {
                return false;
            }
            number[ended[d]] = thousands[d] + small[d];
            many = ended[d] + 1;
            cost = costs[d];
            weight = weights[d];
            return true;
        }

        private boolean enter(int d, int k) {
            int cell = d * CANDIDATES + k;
            int to = d + 1;
            place[to] = place[d];
            thousands[to] = thousands[d];
            small[to] = small[d];
            ended[to] = ended[d];
            costs[to] = costs[d] + heard.cost[cell];
            weights[to] = weights[d] * (COSTS - heard.cost[cell]);
            switch (heard.word[cell]) {
                case NOISE:
                    return true;
                case STOP:
                    return isWhole(d) && passStop(to);
                case AND:
                    return passAnd(to);
                case HUNDRED:
                    return passHundred(to);
                case THOUSAND:
                    return isWhole(d) && passThousand(to);
                default:
                    return passLow(to, heard.word[cell]);
            }
        }

        private boolean isWhole(int d) {
            return place[d] != START && place[d] != JOINED;
        }

        private boolean passStop(int to) {
            if (ended[to] >= NUMBERS) {
                return false;
            }
            number[ended[to]] = thousands[to] + small[to];
            ended[to]++;
            place[to] = START;
            thousands[to] = 0;
            small[to] = 0;
            return true;
        }

        private boolean passAnd(int to) {
            if (place[to] != HUNDREDS && place[to] != THOUSANDS) {
                return false;
            }
            place[to] = JOINED;
            return true;
        }

        private boolean passHundred(int to) {
            if (place[to] != DIGIT) {
                return false;
            }
            small[to] *= 100;
            place[to] = HUNDREDS;
            return true;
        }

        private boolean passThousand(int to) {
            // a SMALL is never 0, so thousands tells whether there was a THOUSAND
            if (thousands[to] != 0) {
                return false;
            }
            thousands[to] = small[to] * 1000;
            small[to] = 0;
            place[to] = THOUSANDS;
            return true;
        }

        private boolean passLow(int to, int word) {
            int p = place[to];
            boolean opensSmall = p == START || p == THOUSANDS;
            boolean opensLow = opensSmall || p == HUNDREDS || p == JOINED;
            if (!opensLow && !(p == TENS && word <= 9)) {
                return false;
            }
            if (word <= 19) {
                small[to] += word;
                place[to] = opensSmall && word <= 9 ? DIGIT : CLOSED;
            } else {
                small[to] += (word - 18) * 10;
                place[to] = TENS;
            }
            return true;
        }
    }

    /** What is looked for in READINGS; it is kept until something changes, as calls ask for it one by one. */
    static final class Survey {
        private final Heard heard;
        private final Walk walk;
        private final Counted counts = new Counted();
        private boolean bestKnown;
        private int said;
        private int sound;
        private int bestCost;
        private int bestMany;
        private int next;
        private final int[] bestNumber = new int[NUMBERS];
        private final int[] bestPick = new int[SLOTS];
        private final int[] changed = new int[SLOTS];
        private final int[] kindCost = new int[KINDS];
        private boolean likelyKnown;
        private int likelyOf;
        private long likelyWeight;
        private long allWeight;

        Survey(Heard heard) {
            this.heard = heard;
            this.walk = new Walk(heard);
        }

        void forget() {
            bestKnown = false;
            counts.known = false;
            likelyKnown = false;
        }

        int saidOnes() {
            findBest();
            return said;
        }

        int soundOnes() {
            findBest();
            return sound;
        }

        int bestTells(int k) {
            findBest();
            if (sound == 0) {
                return NONE;
            }
            if (k == -1) {
                return bestCost;
            }
            if (k == -2) {
                return bestMany;
            }
            return k >= 0 && k < bestMany ? bestNumber[k] : NONE;
        }

        int bestWord(int slot) {
            findBest();
            return sound == 0 ? NONE : heard.word[slot * CANDIDATES + bestPick[slot]];
        }

        int countedOnes() {
            findCounted();
            return counts.many;
        }

        int lookAt() {
            findCounted();
            return counts.partedBest(counts.tally, counts.many);
        }

        int questions() {
            findCounted();
            return counts.questions();
        }

        int nextCost() {
            findCounted();
            return next;
        }

        long countedWords(int slot) {
            findCounted();
            long set = 0;
            for (int k = 0; k < heard.filled[slot]; k++) {
                int cell = slot * CANDIDATES + k;
                if (counts.tally[cell] > 0) {
                    set |= 1L << heard.word[cell];
                }
            }
            return set;
        }

        int countedTells(int k, boolean last) {
            findCounted();
            if (k >= counts.many) {
                return NONE;
            }
            if (k < KEPT) {
                return last ? counts.lastNumber(k) : counts.cost[k];
            }
            int ahead = k;
            walk.begin();
            for (int left = READINGS; left > 0 && walk.step(); left--) {
                if (isCounted() && ahead-- == 0) {
                    return last ? walk.number[walk.many - 1] : walk.cost;
                }
            }
            return NONE;
        }

        int spoilt() {
            findBest();
            if (sound == 0) {
                return NONE;
            }
            int spoilt = 0;
            System.arraycopy(bestPick, 0, changed, 0, SLOTS);
            for (int i = 0; i < heard.size; i++) {
                for (int k = 0; k < heard.filled[i]; k++) {
                    changed[i] = k;
                    // BEST itself comes by here too, but is SOUND
                    if (walk.isSaid(changed) && !isSound()) {
                        spoilt++;
                    }
                }
                changed[i] = bestPick[i];
            }
            return spoilt;
        }

        long likelihood(int v, boolean below) {
            weigh(v);
            long common = divisor(allWeight, likelyWeight);
            if (allWeight == 0 || common == 0) {
                return NONE;
            }
            return (below ? allWeight : likelyWeight) / common;
        }

        int kindsMeant(Sheet row, int i, int n) {
            int kinds = 0;
            for (int kind = 0; kind < KINDS; kind++) {
                kindCost[kind] = ABOVE_COSTS;
            }
            walk.begin();
            for (int left = READINGS; left > 0 && walk.step(); left--) {
                boolean like = row.tells(i, n, walk.number, walk.many);
                for (int kind = 0; kind < KINDS; kind++) {
                    if (walk.cost < kindCost[kind] && Check.isKept(kind, walk.number, walk.many)) {
                        kindCost[kind] = walk.cost;
                        kinds = like ? kinds | 1 << kind : kinds & ~(1 << kind);
                    }
                }
            }
            return kinds;
        }

        private boolean isSound() {
            return Check.isKept(heard.kind, walk.number, walk.many);
        }

        private boolean isCounted() {
            return walk.cost <= bestCost + heard.slack && isSound();
        }

        private void findBest() {
            if (bestKnown) {
                return;
            }
            bestKnown = true;
            said = 0;
            sound = 0;
            walk.begin();
            for (int left = READINGS; left > 0 && walk.step(); left--) {
                said++;
                if (isSound()) {
                    sound++;
                    if (sound == 1 || walk.cost < bestCost) {
                        keepBest();
                    }
                }
            }
        }

        private void keepBest() {
            bestCost = walk.cost;
            bestMany = walk.many;
            System.arraycopy(walk.number, 0, bestNumber, 0, NUMBERS);
            for (int i = 0; i < heard.size; i++) {
                bestPick[i] = walk.pick(i);
            }
        }

        private void findCounted() {
            findBest();
            if (counts.known) {
                return;
            }
            counts.clear();
            next = NONE;
            if (sound == 0) {
                return;
            }
            walk.begin();
            for (int left = READINGS; left > 0 && walk.step(); left--) {
                if (!isSound()) {
                    continue;
                }
                if (walk.cost <= bestCost + heard.slack) {
                    counts.add(walk, heard.size);
                }
                if ((next == NONE || walk.cost < next) && !tellsBest()) {
                    next = walk.cost;
                }
            }
        }

        private boolean tellsBest() {
            if (walk.many != bestMany) {
                return false;
            }
            for (int i = 0; i < bestMany; i++) {
                if (walk.number[i] != bestNumber[i]) {
                    return false;
                }
            }
            return true;
        }

        private void weigh(int v) {
            if (likelyKnown && likelyOf == v) {
                return;
            }
            likelyKnown = true;
            likelyOf = v;
            likelyWeight = 0;
            allWeight = 0;
            walk.begin();
            for (int left = READINGS; left > 0 && walk.step(); left--) {
                if (isSound()) {
                    allWeight += walk.weight;
                    if (walk.number[walk.many - 1] == v) {
                        likelyWeight += walk.weight;
                    }
                }
            }
        }

        /** The greatest that divides both; a weight of 63 bits needs fewer than 100 rounds. */
        private static long divisor(long a, long b) {
            for (int left = 200; left > 0 && b != 0; left--) {
                long rest = a % b;
                a = b;
                b = rest;
            }
            return a;
        }
    }

    /** Those COUNTED: how many have which CANDIDATE, and the first 60 of them one by one. */
    static final class Counted {
        boolean known;
        int many;
        final int[] tally = new int[CELLS];
        final int[] cost = new int[KEPT];
        private final int[] numbers = new int[KEPT];
        private final int[] number = new int[KEPT * NUMBERS];
        // a set of those kept for each cell: that take its CANDIDATE
        private final long[] taking = new long[CELLS];
        private final int[] part = new int[CELLS];

        void clear() {
            known = true;
            many = 0;
            for (int cell = 0; cell < CELLS; cell++) {
                tally[cell] = 0;
                taking[cell] = 0;
            }
        }

        void add(Walk walk, int slots) {
            long bit = many < KEPT ? 1L << many : 0;
            for (int i = 0; i < slots; i++) {
                int cell = i * CANDIDATES + walk.pick(i);
                tally[cell]++;
                taking[cell] |= bit;
            }
            if (many < KEPT) {
                cost[many] = walk.cost;
                numbers[many] = walk.many;
                System.arraycopy(walk.number, 0, number, many * NUMBERS, walk.many);
            }
            many++;
        }

        int lastNumber(int k) {
            if (k < 0 || k >= KEPT || numbers[k] < 1) {
                return NONE;
            }
            return number[k * NUMBERS + numbers[k] - 1];
        }

        /** The SLOT that parts them best, when so many of them take each CANDIDATE; NONE. */
        int partedBest(int[] takers, int all) {
            int slot = NONE;
            int fewest = all;
            for (int i = 0; i < SLOTS; i++) {
                int most = 0;
                for (int k = 0; k < CANDIDATES; k++) {
                    most = Math.max(most, takers[i * CANDIDATES + k]);
                }
                // a SLOT that there is not has no takers at all
                if (most > 0 && most < fewest) {
                    fewest = most;
                    slot = i;
                }
            }
            return slot;
        }

        int questions() {
            if (many == 0 || many > KEPT) {
                return NONE;
            }
            int most = 0;
            for (int i = 0; i < many; i++) {
                most = Math.max(most, questionsIfTrue(i));
            }
            return most;
        }

        private int questionsIfTrue(int truth) {
            long alike = alikeTo(truth);
            long left = (1L << many) - 1;
            // a SLOT that was asked for parts none of those left, so it is never asked for again
            for (int asked = 0; asked < SLOTS; asked++) {
                if ((left & ~alike) == 0) {
                    return asked;
                }
                for (int cell = 0; cell < CELLS; cell++) {
                    part[cell] = Long.bitCount(left & taking[cell]);
                }
                int slot = partedBest(part, Long.bitCount(left));
                if (slot < 0) {
                    return asked;
                }
                left &= takingLike(truth, slot);
            }
            return SLOTS;
        }

        private long takingLike(int truth, int slot) {
            for (int k = 0; k < CANDIDATES; k++) {
                long those = taking[slot * CANDIDATES + k];
                if ((those >>> truth & 1) != 0) {
                    return those;
                }
            }
            return 0;
        }

        /** Those that tell the same NUMBERS. */
        private long alikeTo(int i) {
            long set = 0;
            for (int j = 0; j < many; j++) {
                if (isAlike(i, j)) {
                    set |= 1L << j;
                }
            }
            return set;
        }

        private boolean isAlike(int i, int j) {
            if (numbers[i] != numbers[j]) {
                return false;
            }
            for (int k = 0; k < numbers[i]; k++) {
                if (number[i * NUMBERS + k] != number[j * NUMBERS + k]) {
                    return false;
                }
            }
            return true;
        }
    }

    /** Items are held as longs whatever the LANE is; what is put is cut to the LANE's bits first. */
    static final class Sheet {
        static final int NOTHING = -1;
        private static final int BYTES = 0, SHORTS = 1, INTS = 2;
        final long[] items = new long[ITEMS];
        int lane = NOTHING;
        int size;

        void renew(int newLane, int n) {
            lane = newLane;
            size = n;
            for (int i = 0; i < ITEMS; i++) {
                items[i] = 0;
            }
        }

        boolean lacks(int i, int n) {
            return i < 0 || n < 0 || i > size - n;
        }

        /** 0, if n items from i on can be taken as a row of the LANE. */
        int refusal(int wanted, int i, int n) {
            if (lane == NOTHING) {
                return NULL;
            }
            if (lane != wanted) {
                return CAST;
            }
            return lacks(i, n) ? INDEX : 0;
        }

        void put(int i, long v) {
            if (!lacks(i, 1)) {
                items[i] = cutToLane(v);
            }
        }

        boolean tells(int i, int n, int[] number, int many) {
            if (many != n || many > number.length || lacks(i, n)) {
                return false;
            }
            for (int k = 0; k < n; k++) {
                if (items[i + k] != number[k]) {
                    return false;
                }
            }
            return true;
        }

        private long cutToLane(long v) {
            switch (lane) {
                case BYTES:
                    return (byte) v;
                case SHORTS:
                    return (short) v;
                case INTS:
                    return (int) v;
                default:
                    return v;
            }
        }
    }
}
