import java.util.Arrays;

/** Somebody says in one tongue what is still being said in another; ../shared/DOC.md says what is asked. */
public final class GlassBox {
    public static final int NONE = -1;

    private static final int WORDS = 30;
    private static final int SPEAKERS = 4;
    private static final int SENTENCES = 16;
    private static final int ROW_MOST = 8;
    private static final int SLOTS = 3;
    private static final int VALUES = 8;
    private static final int WEIGHT_MOST = 100;
    private static final int OPENINGS = 12;
    private static final int OPENING_MOST = 9;
    private static final int HABITS = 8;
    private static final int TAPE_MOST = 400;
    private static final int FEED = 20;
    private static final int BOXES = 6;
    private static final int BOX_LAG_MOST = 60;
    private static final int KEEPS_MOST = 100;
    private static final int LIMIT_MOST = 300;
    private static final int SITTING = 60;
    private static final int COST_MOST = 1000;
    private static final int RELIEF_MOST = 120;
    private static final int GLOSSARY_MOST = 240;
    private static final int IMAGES = 2;
    private static final int SAIDS = 1111;
    private static final int BYTE_NOT_HEARD = 255;

    private static final int LOAD = 0;
    private static final int LOOK = 1;
    private static final int SPARES = 2;
    private static final int[] WORD_LEAST = {0, 1, 0};
    private static final int[] WORD_MOST = {9, 60, 9};
    private static final int[] WORD_FIRST = {1, 5, 0};

    private static final int HEAD = 0;
    private static final int RELIEF = 1;
    private static final int FADE = 2;
    private static final int LAG = 3;
    private static final int WRONG = 4;
    private static final int DROPPING = 5;
    private static final int MENDING = 6;
    private static final int OPENS = 7;
    private static final int CHANGE = 8;
    private static final int TERMS = 9;
    private static final int[] TERM_MOST = {60, 60, 100, 100, 1000, 1000, 1000, 100, 1000};
    private static final int[] TERM_FIRST = {6, 3, 1, 1, 20, 10, 4, 2, 5};

    private static final int ORDERS = 6;
    private static final int[] SLOT_AT = {0, 1, 2, 0, 2, 1, 1, 0, 2, 1, 2, 0, 2, 0, 1, 2, 1, 0};
    private static final int[] PLACE_OF = {0, 1, 2, 0, 2, 1, 1, 0, 2, 2, 0, 1, 1, 2, 0, 2, 1, 0};

    private static final int WAIT = 0;
    private static final int SAY = 1;
    private static final int OPEN = 2;
    private static final int DROP = 3;
    private static final int END = 4;
    private static final int GUESS = 10;
    private static final int MEND = 20;

    private static final int SAID_OPEN = 8;
    private static final int SAID_DROPPED = 9;

    private static final int BAD_NUMBER = -1;
    private static final int NOT_THERE = -2;
    private static final int TWICE = -4;
    private static final int NO_ROOM = -5;
    private static final int BAD_TEXT = -6;

    private final State now = new State();
    private final State[] images = new State[IMAGES];
    private final int[] tape = new int[TAPE_MOST];
    private int tapeLength = 0;
    private int faultAt = NONE;
    private int refusedBy = 0;
    private final Reader reader = new Reader();
    private final Tree tree = new Tree();
    private final Solver solver = new Solver(tree);
    private boolean stale = true;
    private final Tree latestTree = new Tree();
    private final Solver latestSolver = new Solver(latestTree);
    private final Booth booth = new Booth();
    private final Booth latestBooth = new Booth();
    private final Chain latestChain = new Chain();
    private final Relief latestRelief = new Relief();
    private final Glossary lookUp = new Glossary();
    private final long[] traces = new long[HABITS];

    public GlassBox() {
    }

    public int word(int word, int what, int value) {
        if (!within(word, 0, WORDS - 1) || !within(what, LOAD, SPARES)) {
            return refuse(BAD_NUMBER);
        }
        if (!within(value, WORD_LEAST[what], WORD_MOST[what])) {
            return refuse(BAD_NUMBER);
        }
        return accept(replace(now.words, what * WORDS + word, value));
    }

    public int terms(int what, int value) {
        if (!within(what, 0, TERMS - 1) || !within(value, 0, TERM_MOST[what])) {
            return refuse(BAD_NUMBER);
        }
        return accept(replace(now.terms, what, value));
    }

    public int order(int order) {
        if (!within(order, 0, ORDERS - 1)) {
            return refuse(BAD_NUMBER);
        }
        int was = now.order;
        now.order = order;
        return accept(was);
    }

    public int opening(int slot, int values, int length) {
        if (!isSlot(slot) || !within(values, 1, (1 << VALUES) - 1) || !within(length, 1, OPENING_MOST)) {
            return refuse(BAD_NUMBER);
        }
        if (now.openingCount >= OPENINGS) {
            return refuse(NO_ROOM);
        }
        return accept(now.addOpening(slot, values, length));
    }

    public int who(int speaker) {
        if (!within(speaker, 0, SPEAKERS - 1)) {
            return refuse(BAD_NUMBER);
        }
        int was = now.speaker;
        now.speaker = speaker;
        return accept(was);
    }

    public int sentence(int a, int b, int c) {
        int length = takeTape();
        if (!isValue(a) || !isValue(b) || !isValue(c)) {
            return refuse(BAD_NUMBER);
        }
        if (!isRow(length)) {
            return refuse(BAD_TEXT);
        }
        if (now.hasRow(tape, length)) {
            return refuse(TWICE);
        }
        if (now.sentenceCount >= SENTENCES) {
            return refuse(NO_ROOM);
        }
        int number = now.addRow(tape, length);
        now.giveValues(number, a, b, c);
        return accept(number);
    }

    public int weigh(int sentence, int speaker, int weight) {
        if (!within(sentence, 0, SENTENCES - 1) || !within(speaker, 0, SPEAKERS - 1)
                || !within(weight, 0, WEIGHT_MOST)) {
            return refuse(BAD_NUMBER);
        }
        if (!now.isThere(sentence)) {
            return refuse(NOT_THERE);
        }
        return accept(replace(now.weights, sentence * SPEAKERS + speaker, weight));
    }

    public int row(int sentence, int i) {
        if (!now.isThere(sentence)) {
            return NONE;
        }
        int length = now.lengths[sentence];
        if (i == NONE) {
            return length;
        }
        return within(i, 0, length - 1) ? now.rows[sentence * ROW_MOST + i] : NONE;
    }

    public int fixed(int sentence, int slot) {
        if (!isSlot(slot) || !now.canBeSpoken(sentence)) {
            return NONE;
        }
        int length = now.lengths[sentence];
        for (int second = 0; second < length; second++) {
            int comes = now.comeBehind(sentence, second + 1);
            if (Integer.bitCount(now.valuesOf(comes, slot)) == 1) {
                return second;
            }
        }
        return length;
    }

    public int odds(int sentence, int n, int slot, int value, int part) {
        if (!now.isThere(sentence) || !isSlot(slot) || !isValue(value) || !within(part, 0, 1)) {
            return NONE;
        }
        if (!within(n, 0, now.lengths[sentence])) {
            return NONE;
        }
        int comes = now.comeBehind(sentence, n);
        int all = now.weightOf(comes);
        if (all <= 0) {
            return NONE;
        }
        int some = now.weightOf(comes & now.having(slot, value));
        int common = commonDivisor(all, some);
        return (part == 0 ? some : all) / common;
    }

    public int fits(int sentence, int n, int slot) {
        if (!now.isThere(sentence) || !isSlot(slot) || !within(n, 1, now.lengths[sentence])) {
            return NONE;
        }
        return now.openingFor(slot, now.valuesOf(now.comeBehind(sentence, n), slot));
    }

    public long best() {
        latestTree.grow(now, NONE);
        return latestSolver.solve(true);
    }

    public int table(int sentence, int second, int said) {
        if (!within(said, 0, SAIDS - 1) || !within(second, 0, latestTree.lengthOf(sentence))) {
            return NONE;
        }
        return latestSolver.moveAt(latestTree.placeIn(sentence, second), said);
    }

    public int plan(int sentence, int second) {
        if (!within(second, 0, Booth.SECONDS - 1) || latestTree.lengthOf(sentence) < 1) {
            return NONE;
        }
        int said = 0;
        for (int t = 0; t <= second; t++) {
            int place = latestTree.placeIn(sentence, t);
            int move = latestSolver.moveAt(place, said);
            if (t == second) {
                return move;
            }
            if (move == END) {
                return NONE;
            }
            said = latestTree.saidBehind(place, said, move);
        }
        return NONE;
    }

    public int feed(int a, int b, int c, int d, int e) {
        if (tapeLength + FEED > TAPE_MOST) {
            return NONE;
        }
        putBytes(a);
        putBytes(b);
        putBytes(c);
        putBytes(d);
        putBytes(e);
        return tapeLength;
    }

    public int end(int n) {
        if (!within(n, 0, tapeLength)) {
            return NONE;
        }
        tapeLength = n;
        return n;
    }

    public int habit() {
        int length = takeTape();
        if (now.habitCount >= HABITS) {
            return refuse(NO_ROOM);
        }
        Habit read = reader.readHabit(tape, length);
        faultAt = reader.faultAt;
        if (read == null) {
            return refuse(BAD_TEXT);
        }
        return accept(now.addHabit(read));
    }

    public int fault() {
        return faultAt;
    }

    public int run(int text, int sentence) {
        if (!now.isHabit(text) || !now.canBeSpoken(sentence)) {
            return NONE;
        }
        freshenTree();
        return latestBooth.play(tree, now.habits[text], sentence);
    }

    public int move(int second) {
        return within(second, 0, latestBooth.seconds - 1) ? latestBooth.moves[second] : NONE;
    }

    public long worth(int text) {
        if (!now.isHabit(text)) {
            return NONE;
        }
        freshenTree();
        long sum = 0;
        for (int s = 0; s < now.sentenceCount; s++) {
            if (now.canBeSpoken(s)) {
                sum += (long) now.weightOf(1 << s) * booth.play(tree, now.habits[text], s);
            }
        }
        return sum;
    }

    public long guessing() {
        freshenTree();
        long least = solver.solve(true);
        return solver.solve(false) - least;
    }

    public long write(int word) {
        if (word != NONE && !within(word, 0, WORDS - 1)) {
            return NONE;
        }
        freshenTree();
        if (!tree.canFade()) {
            return word == NONE ? NONE : 0;
        }
        long least = solver.solve(true);
        if (word != NONE) {
            return sparedBy(word, least);
        }
        long most = 0;
        int found = NONE;
        for (int w = 0; w < WORDS; w++) {
            long spared = sparedBy(w, least);
            if (spared > most) {
                most = spared;
                found = w;
            }
        }
        return found;
    }

    public int box(int lag, int keeps, int limit) {
        if (!within(lag, 0, BOX_LAG_MOST) || !within(keeps, 0, KEEPS_MOST) || !within(limit, 0, LIMIT_MOST)) {
            return refuse(BAD_NUMBER);
        }
        if (now.boxCount >= BOXES) {
            return refuse(NO_ROOM);
        }
        return accept(now.addBox(lag, keeps, limit));
    }

    public int chain() {
        return now.boxCount < 1 ? NONE : latestChain.find(now.boxes, now.boxCount);
    }

    public int link(int i) {
        return within(i, 0, latestChain.length - 1) ? latestChain.links[i] : NONE;
    }

    public int tired(int minute, int cost) {
        if (!within(minute, 0, SITTING - 1) || !within(cost, 0, COST_MOST)) {
            return refuse(BAD_NUMBER);
        }
        return accept(replace(now.costs, minute, cost));
    }

    public int relieve(int minutes) {
        return within(minutes, 1, RELIEF_MOST) ? latestRelief.find(now.costs, now.terms[CHANGE], minutes) : NONE;
    }

    public int change(int i) {
        if (i == NONE) {
            return latestRelief.changeCount;
        }
        return within(i, 0, latestRelief.changeCount - 1) ? latestRelief.changes[i] : NONE;
    }

    public int glossary(int minutes, int what) {
        if (!within(minutes, 0, GLOSSARY_MOST) || !within(what, 0, 1)) {
            return NONE;
        }
        lookUp.find(now, minutes);
        return what == 0 ? lookUp.most[minutes] : lookUp.sets[minutes];
    }

    public int whose(int text, int sentence, int slot, int meant, int third) {
        if (!now.isHabit(text) || !now.canBeSpoken(sentence) || !isSlot(slot)) {
            return NONE;
        }
        if (!isValue(meant) || !isValue(third)) {
            return NONE;
        }
        freshenTree();
        booth.play(tree, now.habits[text], sentence);
        int due = now.values[sentence * SLOTS + slot];
        int hers = tree.digitOf(booth.said, slot);
        return (meant != due ? 1 : 0) + (hers != due ? 2 : 0) + (third != hers ? 4 : 0);
    }

    public int read(int sentence) {
        int length = takeTape();
        if (!now.canBeSpoken(sentence)) {
            return NONE;
        }
        freshenTree();
        int bits = 0;
        for (int text = 0; text < now.habitCount; text++) {
            booth.play(tree, now.habits[text], sentence);
            if (soundsLike(length)) {
                bits |= 1 << text;
            }
        }
        return bits;
    }

    public int parting(int what) {
        if (!within(what, 0, 1)) {
            return NONE;
        }
        freshenTree();
        int most = 0;
        int found = NONE;
        for (int s = 0; s < now.sentenceCount; s++) {
            int pairs = now.canBeSpoken(s) ? pairsApart(s) : 0;
            if (pairs > most) {
                most = pairs;
                found = s;
            }
        }
        return found == NONE || what == 0 ? found : most;
    }

    public int image(int k) {
        if (!within(k, 0, IMAGES - 1)) {
            return refuse(BAD_NUMBER);
        }
        if (images[k] == null) {
            images[k] = new State();
        }
        images[k].copy(now);
        return accept(0);
    }

    public int back(int k) {
        if (!within(k, 0, IMAGES - 1)) {
            return refuse(BAD_NUMBER);
        }
        if (images[k] == null) {
            return refuse(NOT_THERE);
        }
        now.copy(images[k]);
        return accept(0);
    }

    public int count(int what) {
        switch (what) {
            case 0:
                return now.sentenceCount;
            case 1:
                return now.openingCount;
            case 2:
                return now.habitCount;
            case 3:
                return now.boxCount;
            case 4:
                return tapeLength;
            default:
                return NONE;
        }
    }

    public int status() {
        return refusedBy;
    }

    private int refuse(int reason) {
        refusedBy = reason;
        return reason;
    }

    private int accept(int answer) {
        refusedBy = 0;
        stale = true;
        return answer;
    }

    /** The calls that read the TAPE leave it empty whatever they answer; its bytes stay readable until the next feed. */
    private int takeTape() {
        int length = tapeLength;
        tapeLength = 0;
        return length;
    }

    private void putBytes(int four) {
        for (int shift = 24; shift >= 0; shift -= 8) {
            tape[tapeLength] = (four >>> shift) & 255;
            tapeLength++;
        }
    }

    private boolean isRow(int length) {
        if (!within(length, 1, ROW_MOST)) {
            return false;
        }
        for (int i = 0; i < length; i++) {
            if (tape[i] >= WORDS) {
                return false;
            }
        }
        return true;
    }

    private void freshenTree() {
        if (stale) {
            tree.grow(now, NONE);
            stale = false;
        }
    }

    private long sparedBy(int word, long least) {
        if (now.words[LOAD * WORDS + word] == 0 || !now.canHear(word)) {
            return 0;
        }
        tree.grow(now, word);
        stale = true;
        return least - solver.solve(true);
    }

    private boolean soundsLike(int length) {
        if (length != booth.seconds) {
            return false;
        }
        for (int i = 0; i < length; i++) {
            if (tape[i] != BYTE_NOT_HEARD && tape[i] != booth.moves[i]) {
                return false;
            }
        }
        return true;
    }

    private int pairsApart(int sentence) {
        int pairs = 0;
        for (int text = 0; text < now.habitCount; text++) {
            booth.play(tree, now.habits[text], sentence);
            traces[text] = booth.trace;
            for (int other = 0; other < text; other++) {
                pairs += traces[other] == traces[text] ? 0 : 1;
            }
        }
        return pairs;
    }

    private static boolean within(int number, int least, int most) {
        return number >= least && number <= most;
    }

    private static boolean isSlot(int slot) {
        return within(slot, 0, SLOTS - 1);
    }

    private static boolean isValue(int value) {
        return within(value, 0, VALUES - 1);
    }

    private static int replace(int[] list, int at, int value) {
        int was = list[at];
        list[at] = value;
        return was;
    }

    /** At least 1, so that it can divide: one of the two is above 0. */
    private static int commonDivisor(int one, int other) {
        int a = one;
        int b = other;
        for (int i = 0; i < 64 && b != 0; i++) {
            int rest = a % b;
            a = b;
            b = rest;
        }
        return Math.max(a, 1);
    }

    /** All that an IMAGE keeps. */
    private static final class State {
        final int[] words = new int[3 * WORDS];
        final int[] terms = new int[TERMS];
        int order = 0;
        final int[] openings = new int[OPENINGS * 3];
        int openingCount = 0;
        int speaker = 0;
        final int[] rows = new int[SENTENCES * ROW_MOST];
        final int[] lengths = new int[SENTENCES];
        final int[] values = new int[SENTENCES * SLOTS];
        final int[] weights = new int[SENTENCES * SPEAKERS];
        int sentenceCount = 0;
        final Habit[] habits = new Habit[HABITS];
        int habitCount = 0;
        final int[] boxes = new int[BOXES * 3];
        int boxCount = 0;
        final int[] costs = new int[SITTING];

        State() {
            for (int i = 0; i < words.length; i++) {
                words[i] = WORD_FIRST[i / WORDS];
            }
            System.arraycopy(TERM_FIRST, 0, terms, 0, TERMS);
        }

        void copy(State from) {
            System.arraycopy(from.words, 0, words, 0, words.length);
            System.arraycopy(from.terms, 0, terms, 0, terms.length);
            order = from.order;
            System.arraycopy(from.openings, 0, openings, 0, openings.length);
            openingCount = from.openingCount;
            speaker = from.speaker;
            System.arraycopy(from.rows, 0, rows, 0, rows.length);
            System.arraycopy(from.lengths, 0, lengths, 0, lengths.length);
            System.arraycopy(from.values, 0, values, 0, values.length);
            System.arraycopy(from.weights, 0, weights, 0, weights.length);
            sentenceCount = from.sentenceCount;
            for (int i = 0; i < HABITS; i++) {
                habits[i] = from.habits[i];
            }
            habitCount = from.habitCount;
            System.arraycopy(from.boxes, 0, boxes, 0, boxes.length);
            boxCount = from.boxCount;
            System.arraycopy(from.costs, 0, costs, 0, costs.length);
        }

        int addOpening(int slot, int values, int length) {
            openings[openingCount * 3] = slot;
            openings[openingCount * 3 + 1] = values;
            openings[openingCount * 3 + 2] = length;
            openingCount++;
            return openingCount - 1;
        }

        int addRow(int[] bytes, int length) {
            int number = sentenceCount;
            System.arraycopy(bytes, 0, rows, number * ROW_MOST, length);
            lengths[number] = length;
            for (int speaker = 0; speaker < SPEAKERS; speaker++) {
                weights[number * SPEAKERS + speaker] = 1;
            }
            sentenceCount++;
            return number;
        }

        void giveValues(int sentence, int a, int b, int c) {
            values[sentence * SLOTS] = a;
            values[sentence * SLOTS + 1] = b;
            values[sentence * SLOTS + 2] = c;
        }

        int addHabit(Habit added) {
            habits[habitCount] = added;
            habitCount++;
            return habitCount - 1;
        }

        int addBox(int lag, int keeps, int limit) {
            boxes[boxCount * 3] = lag;
            boxes[boxCount * 3 + 1] = keeps;
            boxes[boxCount * 3 + 2] = limit;
            boxCount++;
            return boxCount - 1;
        }

        boolean hasRow(int[] bytes, int length) {
            for (int s = 0; s < sentenceCount; s++) {
                if (lengths[s] == length && beginsWith(s, bytes, 0, length)) {
                    return true;
                }
            }
            return false;
        }

        boolean isThere(int sentence) {
            return within(sentence, 0, sentenceCount - 1);
        }

        boolean isHabit(int text) {
            return within(text, 0, habitCount - 1) && habits[text] != null;
        }

        boolean canBeSpoken(int sentence) {
            return sentence >= 0 && sentence < sentenceCount && weights[sentence * SPEAKERS + speaker] > 0;
        }

        boolean canHear(int word) {
            for (int s = 0; s < sentenceCount; s++) {
                if (canBeSpoken(s) && timesIn(s, word) > 0) {
                    return true;
                }
            }
            return false;
        }

        int timesIn(int sentence, int word) {
            int times = 0;
            for (int i = 0; i < lengths[sentence]; i++) {
                times += rows[sentence * ROW_MOST + i] == word ? 1 : 0;
            }
            return times;
        }

        /** What CAN COME, as bits, behind the first n WORDS of a SENTENCE that is not OVER. */
        int comeBehind(int sentence, int n) {
            int bits = 0;
            for (int s = 0; s < sentenceCount; s++) {
                if (canBeSpoken(s) && lengths[s] >= n && beginsWith(s, rows, sentence * ROW_MOST, n)) {
                    bits |= 1 << s;
                }
            }
            return bits;
        }

        private boolean beginsWith(int sentence, int[] from, int at, int n) {
            for (int i = 0; i < n; i++) {
                if (rows[sentence * ROW_MOST + i] != from[at + i]) {
                    return false;
                }
            }
            return true;
        }

        int firstIn(int bits) {
            for (int s = 0; s < sentenceCount; s++) {
                if ((bits >> s & 1) == 1) {
                    return s;
                }
            }
            return sentenceCount;
        }

        int valuesOf(int bits, int slot) {
            int found = 0;
            for (int s = 0; s < sentenceCount; s++) {
                if ((bits >> s & 1) == 1) {
                    found |= 1 << values[s * SLOTS + slot];
                }
            }
            return found;
        }

        int having(int slot, int value) {
            int bits = 0;
            for (int s = 0; s < sentenceCount; s++) {
                bits |= values[s * SLOTS + slot] == value ? 1 << s : 0;
            }
            return bits;
        }

        void weighValues(int bits, int slot, int[] sums) {
            Arrays.fill(sums, 0);
            for (int s = 0; s < sentenceCount; s++) {
                if ((bits >> s & 1) == 1) {
                    sums[values[s * SLOTS + slot]] += weights[s * SPEAKERS + speaker];
                }
            }
        }

        int weightOf(int bits) {
            int sum = 0;
            for (int s = 0; s < sentenceCount; s++) {
                if ((bits >> s & 1) == 1) {
                    sum += weights[s * SPEAKERS + speaker];
                }
            }
            return sum;
        }

        int openingFor(int slot, int wanted) {
            int found = NONE;
            int shortest = OPENING_MOST + 1;
            for (int i = 0; i < openingCount; i++) {
                boolean suits = openings[i * 3] == slot && (wanted & ~openings[i * 3 + 1]) == 0;
                if (suits && openings[i * 3 + 2] < shortest) {
                    shortest = openings[i * 3 + 2];
                    found = i;
                }
            }
            return found;
        }
    }

    /** A TEXT that was read; it never changes, so that IMAGES can share it. */
    private static final class Habit {
        final int[] heads;
        final int[] ends;
        final int[] code;

        /** A CLAUSE's code lies between the end of the one ahead of it and its own. */
        Habit(int[] heads, int[] ends, int[] code) {
            this.heads = heads;
            this.ends = ends;
            this.code = code;
        }
    }

    /** Turns a TEXT into code for a stack: what is joined stands ahead of what joins it. */
    private static final class Reader {
        static final int CLAUSES = 12;
        static final int PARTS_MOST = 50;
        static final int BRACKETS_MOST = 8;
        static final int NUMBER_MOST = 100000;

        static final String KEYWORDS =
            "wait say open drop guess mend if or and not known over held head done likely left second who wrong load ";
        static final int WAIT_HEAD = 0;
        static final int SAY_HEAD = 1;
        static final int OPEN_HEAD = 2;
        static final int DROP_HEAD = 3;
        static final int MEND_HEAD = 5;
        static final int IF = 6;
        static final int OR = 7;
        static final int AND = 8;
        static final int NOT = 9;
        static final int KNOWN = 10;
        static final int HELD = 12;
        static final int KEYWORD_COUNT = 21;
        static final int NUMBER = 21;
        static final int CLOSE = 22;
        static final int STRANGE = 23;
        static final int SIGN = 100;
        static final int KIND_BITS = 9;
        static final int KIND_MASK = 511;

        static final int CODE_NUMBER = 0;
        static final int CODE_WORD = 1;
        static final int CODE_PLUS = 2;
        static final int CODE_MINUS = 3;
        static final int CODE_TIMES = 4;
        static final int CODE_THROUGH = 5;
        static final int CODE_BELOW = 6;
        static final int CODE_ABOVE = 7;
        static final int CODE_EQUAL = 8;
        static final int CODE_NOT = 9;
        static final int CODE_AND = 10;
        static final int CODE_OR = 11;
        static final int CODE_BITS = 4;
        static final int CODE_MASK = 15;

        /** A kind, with a NUMBER's own above it. */
        private final int[] tokens = new int[TAPE_MOST + 1];
        private final int[] starts = new int[TAPE_MOST + 1];
        private int at = 0;
        private int kind = CLOSE;
        private int parts = 0;
        private final int[] heads = new int[CLAUSES];
        private final int[] ends = new int[CLAUSES];
        private int clauses = 0;
        private final int[] code = new int[TAPE_MOST];
        private int used = 0;
        int faultAt = NONE;

        /** null if the TEXT can't be. */
        Habit readHabit(int[] bytes, int length) {
            faultAt = NONE;
            parts = 0;
            clauses = 0;
            used = 0;
            splitTokens(bytes, Math.min(length, Math.min(bytes.length, TAPE_MOST)));
            at = 0;
            kind = tokens[0] & KIND_MASK;
            if (!takesClauses()) {
                return null;
            }
            return new Habit(Arrays.copyOf(heads, clauses), Arrays.copyOf(ends, clauses), Arrays.copyOf(code, used));
        }

        private void splitTokens(int[] bytes, int length) {
            int count = 0;
            int from = 0;
            for (int i = 0; i < TAPE_MOST && from < length; i++) {
                int to = tokenEnd(bytes, from, length);
                if (bytes[from] != ' ') {
                    starts[count] = from;
                    tokens[count] = tokenOf(bytes, from, to);
                    count++;
                }
                from = to;
            }
            starts[count] = length;
            tokens[count] = CLOSE;
        }

        private static int tokenEnd(int[] bytes, int from, int length) {
            int to = from + 1;
            boolean letters = isLetter(bytes[from]);
            if (letters || isDigit(bytes[from])) {
                while (to < length && (letters ? isLetter(bytes[to]) : isDigit(bytes[to]))) {
                    to++;
                }
            }
            return to;
        }

        private static int tokenOf(int[] bytes, int from, int to) {
            if (isLetter(bytes[from])) {
                return keyword(bytes, from, to);
            }
            if (!isDigit(bytes[from])) {
                return SIGN + bytes[from];
            }
            int number = 0;
            for (int i = from; i < to; i++) {
                number = Math.min(number * 10 + bytes[i] - '0', NUMBER_MOST + 1);
            }
            return number > NUMBER_MOST ? STRANGE : number << KIND_BITS | NUMBER;
        }

        /** How many keywords stand ahead of it in their row. */
        private static int keyword(int[] bytes, int from, int to) {
            int ahead = 0;
            int matched = 0;
            for (int i = 0; i < KEYWORDS.length(); i++) {
                char letter = KEYWORDS.charAt(i);
                if (letter != ' ') {
                    boolean same = matched >= 0 && from + matched < to && bytes[from + matched] == letter;
                    matched = same ? matched + 1 : NONE;
                } else if (matched == to - from) {
                    return ahead;
                } else {
                    ahead++;
                    matched = 0;
                }
            }
            return STRANGE;
        }

        private static boolean isLetter(int sign) {
            return sign >= 'a' && sign <= 'z';
        }

        private static boolean isDigit(int sign) {
            return sign >= '0' && sign <= '9';
        }

        private boolean takesClauses() {
            for (int i = 0; i < CLAUSES; i++) {
                if (kind > MEND_HEAD) {
                    return fail();
                }
                heads[i] = kind;
                advance();
                if (kind == IF) {
                    advance();
                    if (!takesTest(0)) {
                        return false;
                    }
                }
                ends[i] = used;
                clauses = i + 1;
                if (kind == CLOSE) {
                    return true;
                }
                if (!takesSign(';')) {
                    return false;
                }
            }
            return fail();
        }

        private boolean takesTest(int depth) {
            boolean well = takesBoth(depth);
            for (int i = 0; i < TAPE_MOST && well && kind == OR; i++) {
                int jump = put(CODE_OR, 0);
                advance();
                well = takesBoth(depth);
                aim(jump);
            }
            return well;
        }

        private boolean takesBoth(int depth) {
            boolean well = takesPlain(depth);
            for (int i = 0; i < TAPE_MOST && well && kind == AND; i++) {
                int jump = put(CODE_AND, 0);
                advance();
                well = takesPlain(depth);
                aim(jump);
            }
            return well;
        }

        /** Rows of "not" can be longer than calls may go deep, so they are counted. */
        private boolean takesPlain(int depth) {
            int nots = 0;
            for (int i = 0; i < TAPE_MOST && kind == NOT; i++) {
                nots++;
                advance();
            }
            boolean well;
            if (kind == SIGN + '(') {
                well = takesBracket(depth) && takesTest(depth + 1) && takesSign(')');
            } else if (kind >= KNOWN && kind < HELD) {
                well = takesPart(CODE_WORD, kind - KNOWN);
            } else {
                well = takesComparison(depth);
            }
            if (well && nots % 2 == 1) {
                put(CODE_NOT, 0);
            }
            return well;
        }

        private boolean takesComparison(int depth) {
            if (!takesSum(depth)) {
                return false;
            }
            int operation;
            if (kind == SIGN + '<') {
                operation = CODE_BELOW;
            } else if (kind == SIGN + '>') {
                operation = CODE_ABOVE;
            } else if (kind == SIGN + '=') {
                operation = CODE_EQUAL;
            } else {
                return fail();
            }
            advance();
            boolean well = takesSum(depth);
            put(operation, 0);
            return well;
        }

        private boolean takesSum(int depth) {
            boolean well = takesTerm(depth);
            for (int i = 0; i < TAPE_MOST && well && (kind == SIGN + '+' || kind == SIGN + '-'); i++) {
                int operation = kind == SIGN + '+' ? CODE_PLUS : CODE_MINUS;
                advance();
                well = takesTerm(depth);
                put(operation, 0);
            }
            return well;
        }

        private boolean takesTerm(int depth) {
            boolean well = takesFactor(depth);
            for (int i = 0; i < TAPE_MOST && well && (kind == SIGN + '*' || kind == SIGN + '/'); i++) {
                int operation = kind == SIGN + '*' ? CODE_TIMES : CODE_THROUGH;
                advance();
                well = takesFactor(depth);
                put(operation, 0);
            }
            return well;
        }

        private boolean takesFactor(int depth) {
            if (kind == SIGN + '[') {
                return takesBracket(depth) && takesSum(depth + 1) && takesSign(']');
            }
            if (kind == NUMBER) {
                return takesPart(CODE_NUMBER, tokens[at] >> KIND_BITS);
            }
            if (kind >= HELD && kind < KEYWORD_COUNT) {
                return takesPart(CODE_WORD, kind - KNOWN);
            }
            return fail();
        }

        private boolean takesBracket(int depth) {
            if (depth >= BRACKETS_MOST) {
                return fail();
            }
            advance();
            return true;
        }

        private boolean takesPart(int operation, int operand) {
            if (parts >= PARTS_MOST) {
                return fail();
            }
            parts++;
            put(operation, operand);
            advance();
            return true;
        }

        private boolean takesSign(char sign) {
            if (kind != SIGN + sign) {
                return fail();
            }
            advance();
            return true;
        }

        private void advance() {
            at = Math.min(at + 1, TAPE_MOST);
            kind = tokens[at] & KIND_MASK;
        }

        private boolean fail() {
            faultAt = starts[at];
            return false;
        }

        /** A TOKEN gives one code at most, so that the code has room for every TEXT. */
        private int put(int operation, int operand) {
            int place = Math.min(used, TAPE_MOST - 1);
            code[place] = operand << CODE_BITS | operation;
            used = place + 1;
            return place;
        }

        /** What is already sure jumps over what stands behind. */
        private void aim(int jump) {
            code[jump] |= used << CODE_BITS;
        }
    }

    /** SAID as a number: each SLOT that is DONE puts a digit behind, ten ways from each number. */
    private static final class Said {
        static int doneIn(int said) {
            if (said < 1) {
                return 0;
            }
            if (said < 11) {
                return 1;
            }
            return said < 111 ? 2 : 3;
        }

        static int with(int said, int digit) {
            return said * 10 + 1 + digit;
        }

        /** NONE if so many are not DONE. */
        static int digitAt(int said, int done, int at) {
            if (at >= done) {
                return NONE;
            }
            int rest = said;
            for (int i = done - 1; i > at; i--) {
                rest = (rest - 1) / 10;
            }
            return (rest - 1) % 10;
        }

        static int changedAt(int said, int done, int at, int digit) {
            int difference = digit - digitAt(said, done, at);
            for (int i = done - 1; i > at; i--) {
                difference *= 10;
            }
            return said + difference;
        }
    }

    /** The places that can be come to: rows of WORDS that came, and a SENTENCE's being OVER behind its last WORD. */
    private static final class Tree {
        static final int PLACES = 1 + SENTENCES * (ROW_MOST + 1);
        static final int SECONDS = ROW_MOST + 1;

        final int[] firstChild = new int[PLACES];
        final int[] nextChild = new int[PLACES];
        final int[] weight = new int[PLACES];
        final int[] load = new int[PLACES];
        final boolean[] over = new boolean[PLACES];
        /** Whether a SLOT can have fewer VALUES than at the place ahead of it. */
        final boolean[] narrower = new boolean[PLACES];
        final int[] masks = new int[PLACES * SLOTS];
        final int[] sole = new int[PLACES * SLOTS];
        final int[] likeliest = new int[PLACES * SLOTS];
        final int[] likeliestWeight = new int[PLACES * SLOTS];
        /** 0 without an OPENING that fits. */
        final int[] openingLength = new int[PLACES * SLOTS];
        final int[] placeAt = new int[SENTENCES * SECONDS];
        final int[] lengths = new int[SENTENCES];
        final int[] terms = new int[TERMS];
        final int[] valueWeights = new int[VALUES];
        int placeCount = 0;
        int order = 0;
        int speaker = 0;

        /** All that later answers need is taken over here, because the latest TABLE outlives what it was made of. */
        void grow(State from, int lightWord) {
            System.arraycopy(from.terms, 0, terms, 0, TERMS);
            order = from.order;
            speaker = from.speaker;
            Arrays.fill(lengths, 0);
            placeCount = 1;
            firstChild[0] = NONE;
            for (int s = 0; s < from.sentenceCount; s++) {
                if (from.canBeSpoken(s)) {
                    growSentence(from, s, lightWord);
                }
            }
        }

        private void growSentence(State from, int sentence, int lightWord) {
            int length = from.lengths[sentence];
            lengths[sentence] = length;
            int place = 0;
            for (int second = 0; second < length; second++) {
                int comes = from.comeBehind(sentence, second + 1);
                int first = from.firstIn(comes);
                if (first < sentence) {
                    place = placeAt[first * SECONDS + second];
                } else {
                    place = addPlace(place, from, comes);
                    int word = from.rows[sentence * ROW_MOST + second];
                    load[place] += word == lightWord ? 0 : from.words[LOAD * WORDS + word];
                }
                placeAt[sentence * SECONDS + second] = place;
            }
            place = addPlace(place, from, 1 << sentence);
            over[place] = true;
            placeAt[sentence * SECONDS + length] = place;
        }

        private int addPlace(int parent, State from, int comes) {
            int place = Math.min(placeCount, PLACES - 1);
            placeCount = place + 1;
            firstChild[place] = NONE;
            nextChild[place] = firstChild[parent];
            firstChild[parent] = place;
            load[place] = load[parent];
            over[place] = false;
            describe(from, place, comes);
            narrower[place] = false;
            for (int slot = 0; slot < SLOTS; slot++) {
                narrower[place] |= masks[place * SLOTS + slot] != masks[parent * SLOTS + slot];
            }
            return place;
        }

        private void describe(State from, int place, int comes) {
            weight[place] = from.weightOf(comes);
            for (int slot = 0; slot < SLOTS; slot++) {
                int at = place * SLOTS + slot;
                from.weighValues(comes, slot, valueWeights);
                int mask = 0;
                int top = 0;
                for (int value = 0; value < VALUES; value++) {
                    mask |= valueWeights[value] > 0 ? 1 << value : 0;
                    top = valueWeights[value] > valueWeights[top] ? value : top;
                }
                masks[at] = mask;
                likeliest[at] = top;
                likeliestWeight[at] = valueWeights[top];
                sole[at] = mask == 1 << top ? top : NONE;
                int opening = from.openingFor(slot, mask);
                openingLength[at] = opening == NONE ? 0 : from.openings[opening * 3 + 2];
            }
        }

        /** NONE if the SENTENCE has no place here, so that nothing lies within 0 and it. */
        int lengthOf(int sentence) {
            return within(sentence, 0, SENTENCES - 1) && lengths[sentence] > 0 ? lengths[sentence] : NONE;
        }

        int placeIn(int sentence, int second) {
            return placeAt[sentence * SECONDS + Math.min(second, lengths[sentence])];
        }

        /** Where the SLOT is described that is NEXT if so many are DONE. */
        int nextAt(int place, int done) {
            return place * SLOTS + SLOT_AT[order * SLOTS + done];
        }

        int digitOf(int said, int slot) {
            return Said.digitAt(said, Said.doneIn(said), PLACE_OF[order * SLOTS + slot]);
        }

        boolean canMend(int place, int said, int slot) {
            int due = sole[place * SLOTS + slot];
            int digit = digitOf(said, slot);
            return due != NONE && digit != due && isValue(digit);
        }

        int mended(int place, int said, int slot) {
            return Said.changedAt(said, Said.doneIn(said), PLACE_OF[order * SLOTS + slot], sole[place * SLOTS + slot]);
        }

        int saidBehind(int place, int said, int move) {
            if (move >= MEND) {
                return mended(place, said, move - MEND);
            }
            if (move >= GUESS) {
                return Said.with(said, move - GUESS);
            }
            switch (move) {
                case SAY:
                    return Said.with(said, sole[nextAt(place, Said.doneIn(said))]);
                case OPEN:
                    return Said.with(said, SAID_OPEN);
                case DROP:
                    return Said.with(said, SAID_DROPPED);
                default:
                    return said;
            }
        }

        int held(int place, int done) {
            return Math.max(load[place] - terms[RELIEF] * done, 0);
        }

        /** Whether a LOAD can cost anything at all. */
        boolean canFade() {
            for (int place = 1; place < placeCount; place++) {
                if (terms[FADE] > 0 && load[place] > terms[HEAD]) {
                    return true;
                }
            }
            return false;
        }

        /** What a SECOND costs by what is HELD and its lateness, if so many are DONE behind the MOVE. */
        int secondLoss(int place, int done) {
            int above = Math.max(held(place, done) - terms[HEAD], 0);
            return terms[FADE] * above + (over[place] ? terms[LAG] : 0);
        }

        /** What a MOVE costs by itself; SAID is that ahead of it. */
        int moveLoss(int place, int said, int move) {
            if (move == OPEN) {
                return terms[OPENS] * openingLength[nextAt(place, Said.doneIn(said))];
            }
            return move >= MEND ? terms[MENDING] : 0;
        }

        int endLoss(int place, int said) {
            int loss = 0;
            for (int slot = 0; slot < SLOTS; slot++) {
                int digit = digitOf(said, slot);
                if (digit == SAID_DROPPED) {
                    loss += terms[DROPPING];
                } else if (isValue(digit) && digit != sole[place * SLOTS + slot]) {
                    loss += terms[WRONG];
                }
            }
            return loss;
        }
    }

    /**
     * The least LOSS from every place on; a place's losses are found when they are first asked for.
     *
     * Much that was SAID differently costs the same from a place on. So what is DROPPED is paid for at once, and each
     * SLOT that is DONE is SETTLED (it will cost no more), ASTRAY (it has a VALUE that can't be right), or has a VALUE
     * that can still be right: only these are told apart.
     */
    private static final class Solver {
        static final int SETTLED = 8;
        static final int ASTRAY = 9;
        /** Far above WORDS, SLOTS and mendings together. */
        static final int DEEPEST = 40;
        static final int MOVE_BITS = 5;
        static final long MOVE_MASK = 31;
        static final int LOSS_BITS = 32;
        static final long LOSS_MASK = 0xFFFFFFFFL;
        /** Above any loss with its MOVE, for what can't be done. */
        static final long NEVER = 1L << 62;
        static final int COUNTS = SLOTS + 1;

        private final Tree tree;
        private final long[][] losses = new long[Tree.PLACES][];
        private final int[] secondLosses = new int[Tree.PLACES * COUNTS];
        private long mark = 0;
        private boolean guesses = true;

        Solver(Tree tree) {
            this.tree = tree;
        }

        /** LEAST for the tree as it stands. */
        long solve(boolean withGuesses) {
            guesses = withGuesses;
            mark++;
            for (int place = 1; place < tree.placeCount; place++) {
                if (losses[place] == null) {
                    losses[place] = new long[SAIDS];
                }
                for (int done = 0; done < COUNTS; done++) {
                    secondLosses[place * COUNTS + done] = tree.weight[place] * tree.secondLoss(place, done);
                }
            }
            return lossFrom(0, 0, 0, 0);
        }

        int moveAt(int place, int said) {
            int done = Said.doneIn(said);
            int plain = said;
            for (int at = 0; at < done; at++) {
                if (Said.digitAt(said, done, at) == SAID_DROPPED) {
                    plain = Said.changedAt(plain, done, at, SETTLED);
                }
            }
            return (int) (choose(place, seenFrom(place, plain, done), done, 0) & MOVE_MASK);
        }

        /** What was SAID, as far as it matters from a place on. */
        private int seenFrom(int place, int said, int done) {
            int seen = said;
            int rest = said;
            int power = 1;
            for (int at = done - 1; at >= 0; at--) {
                int digit = (rest - 1) % 10;
                rest = (rest - 1) / 10;
                if (digit < VALUES) {
                    seen += (fateOf(tree.nextAt(place, at), digit) - digit) * power;
                }
                power *= 10;
            }
            return seen;
        }

        private int fateOf(int at, int value) {
            if ((tree.masks[at] >> value & 1) == 0) {
                return ASTRAY;
            }
            return tree.sole[at] == NONE ? value : SETTLED;
        }

        /** Loss and MOVE in one number, so that of alike losses the lowest MOVE is least. */
        private static long packed(long loss, int move) {
            return loss << MOVE_BITS | move;
        }

        private long choose(int place, int said, int done, int depth) {
            if (depth > DEEPEST) {
                return 0;
            }
            long least = tree.over[place] ? NEVER : packed(lossAfter(place, said, done, depth), WAIT);
            if (done < SLOTS) {
                least = Math.min(least, chooseNext(place, said, done, depth));
            }
            int astray = 0;
            int rest = said;
            int power = 1;
            for (int at = done - 1; at >= 0; at--) {
                if ((rest - 1) % 10 == ASTRAY) {
                    astray++;
                    least = Math.min(least, chooseMend(place, said - power, done, at, depth));
                }
                rest = (rest - 1) / 10;
                power *= 10;
            }
            if (done == SLOTS && tree.over[place]) {
                long loss = (long) tree.weight[place] * tree.terms[WRONG] * astray;
                least = Math.min(least, packed(loss, END));
            }
            return least;
        }

        private long chooseNext(int place, int said, int done, int depth) {
            int at = tree.nextAt(place, done);
            long weight = tree.weight[place];
            long settled = lossAfter(place, Said.with(said, SETTLED), done + 1, depth);
            long least = packed(settled + weight * tree.terms[DROPPING], DROP);
            if (tree.sole[at] != NONE) {
                return Math.min(least, packed(settled, SAY));
            }
            if (tree.openingLength[at] > 0) {
                long loss = settled + weight * tree.terms[OPENS] * tree.openingLength[at];
                least = Math.min(least, packed(loss, OPEN));
            }
            int mask = guesses ? tree.masks[at] : 0;
            for (int value = 0; value < VALUES; value++) {
                if ((mask >> value & 1) == 1) {
                    long loss = lossAfter(place, Said.with(said, value), done + 1, depth);
                    least = Math.min(least, packed(loss, GUESS + value));
                }
            }
            return least;
        }

        private long chooseMend(int place, int mended, int done, int at, int depth) {
            int described = tree.nextAt(place, at);
            if (tree.sole[described] == NONE) {
                return NEVER;
            }
            long loss = (long) tree.weight[place] * tree.terms[MENDING] + lossAfter(place, mended, done, depth);
            return packed(loss, MEND + described - place * SLOTS);
        }

        /** What the rest costs of this SECOND on, if so much is SAID behind its MOVE. */
        private long lossAfter(int place, int said, int done, int depth) {
            long kept = losses[place][said];
            if (kept >>> LOSS_BITS == mark) {
                return kept & LOSS_MASK;
            }
            long loss = secondLosses[place * COUNTS + done];
            if (tree.over[place]) {
                loss += choose(place, said, done, depth + 1) >> MOVE_BITS;
            } else {
                loss += lossFrom(place, said, done, depth);
            }
            losses[place][said] = mark << LOSS_BITS | loss;
            return loss;
        }

        /** What all costs that comes behind a place. */
        private long lossFrom(int place, int said, int done, int depth) {
            long loss = 0;
            int child = tree.firstChild[place];
            for (int i = 0; i < Tree.PLACES && child != NONE; i++) {
                int seen = tree.narrower[child] ? seenFrom(child, said, done) : said;
                loss += choose(child, seen, done, depth + 1) >> MOVE_BITS;
                child = tree.nextChild[child];
            }
            return loss;
        }
    }

    /** Plays a SENTENCE by a HABIT. */
    private static final class Booth {
        /** One for each WORD, one for each SLOT, the END: a SLOT said wrong is mended once, another is DONE once. */
        static final int SECONDS = ROW_MOST + SLOTS + 1;
        static final int STACK = 64;
        static final long BROKEN_BEYOND = 1000000000L;
        static final int WORD_COUNT = Reader.KEYWORD_COUNT - Reader.KNOWN;

        final int[] moves = new int[SECONDS];
        int seconds = 0;
        /** All MOVES in one number behind a 1, so that WAITS count too and no two rows have the same. */
        long trace = 1;
        int said = 0;
        private final long[] asked = new long[WORD_COUNT];
        private int mendMove = NONE;
        private final long[] stack = new long[STACK];

        int play(Tree tree, Habit habit, int sentence) {
            int loss = 0;
            said = 0;
            seconds = 0;
            trace = 1;
            for (int second = 0; second < SECONDS; second++) {
                int place = tree.placeIn(sentence, second);
                askAll(tree, place, second);
                int move = chooseBy(tree, habit, place);
                moves[second] = move;
                seconds = second + 1;
                trace = trace << Solver.MOVE_BITS | move;
                if (move == END) {
                    return loss + tree.endLoss(place, said);
                }
                loss += tree.moveLoss(place, said, move);
                said = tree.saidBehind(place, said, move);
                loss += tree.secondLoss(place, Said.doneIn(said));
            }
            return loss;
        }

        /** In the order of the keywords, known first. */
        private void askAll(Tree tree, int place, int second) {
            int done = Said.doneIn(said);
            int at = done < SLOTS ? tree.nextAt(place, done) : NONE;
            int all = Math.max(tree.weight[place], 1);
            asked[0] = at != NONE && tree.sole[at] != NONE ? 1 : 0;
            asked[1] = tree.over[place] ? 1 : 0;
            asked[2] = tree.held(place, done);
            asked[3] = tree.terms[HEAD];
            asked[4] = done;
            asked[5] = at == NONE ? 0 : tree.likeliestWeight[at] * 100 / all;
            asked[6] = at == NONE ? 0 : Integer.bitCount(tree.masks[at]);
            asked[7] = second;
            asked[8] = tree.speaker;
            asked[9] = askMends(tree, place);
            asked[10] = tree.load[place];
        }

        /** How many SLOTS could be mended; the lowest of them is kept. */
        private int askMends(Tree tree, int place) {
            int slots = 0;
            mendMove = NONE;
            for (int slot = SLOTS - 1; slot >= 0; slot--) {
                if (tree.canMend(place, said, slot)) {
                    slots++;
                    mendMove = MEND + slot;
                }
            }
            return slots;
        }

        private int chooseBy(Tree tree, Habit habit, int place) {
            int from = 0;
            for (int i = 0; i < habit.heads.length; i++) {
                int to = habit.ends[i];
                int move = possible(tree, habit.heads[i], place);
                if (move != NONE && (from == to || isSo(habit.code, from, to))) {
                    return move;
                }
                from = to;
            }
            if (asked[0] != 0) {
                return SAY;
            }
            if (!tree.over[place]) {
                return WAIT;
            }
            return Said.doneIn(said) == SLOTS ? END : DROP;
        }

        /** The MOVE that a HEAD means here; NONE if it can't be done. */
        private int possible(Tree tree, int head, int place) {
            int done = Said.doneIn(said);
            if (head == Reader.WAIT_HEAD) {
                return tree.over[place] ? NONE : WAIT;
            }
            if (head == Reader.MEND_HEAD) {
                return mendMove;
            }
            if (done >= SLOTS) {
                return NONE;
            }
            int at = tree.nextAt(place, done);
            boolean known = tree.sole[at] != NONE;
            switch (head) {
                case Reader.SAY_HEAD:
                    return known ? SAY : NONE;
                case Reader.OPEN_HEAD:
                    return !known && tree.openingLength[at] > 0 ? OPEN : NONE;
                case Reader.DROP_HEAD:
                    return DROP;
                default:
                    return known ? NONE : GUESS + tree.likeliest[at];
            }
        }

        /** Whether a TEST is so and not BROKEN. */
        private boolean isSo(int[] code, int from, int to) {
            int top = 0;
            int at = from;
            for (int i = 0; i < TAPE_MOST && at < to; i++) {
                int operation = code[at] & Reader.CODE_MASK;
                int operand = code[at] >> Reader.CODE_BITS;
                at++;
                if (operation <= Reader.CODE_WORD) {
                    if (top >= STACK) {
                        return false;
                    }
                    stack[top] = operation == Reader.CODE_NUMBER ? operand : asked[operand];
                    top++;
                } else if (top < 1) {
                    return false;
                } else if (operation == Reader.CODE_NOT) {
                    stack[top - 1] = 1 - stack[top - 1];
                } else if (operation >= Reader.CODE_AND) {
                    boolean sure = (stack[top - 1] != 0) == (operation == Reader.CODE_OR);
                    at = sure ? operand : at;
                    top = sure ? top : top - 1;
                } else {
                    top--;
                    if (top < 1 || isBroken(operation, top)) {
                        return false;
                    }
                }
            }
            return top > 0 && stack[top - 1] != 0;
        }

        /** Joins the number at top with the one below it, there. */
        private boolean isBroken(int operation, int top) {
            long left = stack[top - 1];
            long right = stack[top];
            if (operation == Reader.CODE_THROUGH && right == 0) {
                return true;
            }
            long joined = joined(operation, left, right);
            stack[top - 1] = joined;
            return joined > BROKEN_BEYOND || joined < -BROKEN_BEYOND;
        }

        private static long joined(int operation, long left, long right) {
            switch (operation) {
                case Reader.CODE_PLUS:
                    return left + right;
                case Reader.CODE_MINUS:
                    return left - right;
                case Reader.CODE_TIMES:
                    return left * right;
                case Reader.CODE_THROUGH:
                    return right == 0 ? 0 : left / right;
                case Reader.CODE_BELOW:
                    return left < right ? 1 : 0;
                case Reader.CODE_ABOVE:
                    return left > right ? 1 : 0;
                default:
                    return left == right ? 1 : 0;
            }
        }
    }

    /** The latest CHAIN. */
    private static final class Chain {
        static final int WHOLE = 1000000;

        final int[] links = new int[BOXES];
        int length = 0;
        private final int[] tried = new int[BOXES];
        private int most = NONE;

        int find(int[] boxes, int boxCount) {
            length = boxCount;
            most = NONE;
            extend(boxes, 0, 0, WHOLE, 0);
            return most;
        }

        /** Rows are tried from the first on, so that a later one must keep more. */
        private void extend(int[] boxes, int at, int usedBits, int amount, int lags) {
            if (at >= length) {
                if (amount > most) {
                    most = amount;
                    System.arraycopy(tried, 0, links, 0, length);
                }
                return;
            }
            for (int box = 0; box < length; box++) {
                if ((usedBits >> box & 1) == 0) {
                    tried[at] = box;
                    int kept = (int) ((long) amount * boxes[box * 3 + 1] / 100);
                    kept = lags > boxes[box * 3 + 2] ? kept / 2 : kept;
                    extend(boxes, at + 1, usedBits | 1 << box, kept, lags + boxes[box * 3]);
                }
            }
        }
    }

    /** The latest RELIEVED. */
    private static final class Relief {
        static final int DEARER_THAN_ALL = 1 << 30;

        final int[] changes = new int[RELIEF_MOST];
        int changeCount = NONE;
        private final int[] least = new int[RELIEF_MOST + 1];
        private final int[] sits = new int[RELIEF_MOST + 1];

        int find(int[] costs, int changeCost, int minutes) {
            least[minutes] = 0;
            for (int minute = minutes - 1; minute >= 0; minute--) {
                sitFrom(minute, costs, changeCost, minutes);
            }
            changeCount = 0;
            int minute = sits[0];
            for (int i = 0; i < RELIEF_MOST && minute < minutes; i++) {
                changes[changeCount] = minute;
                changeCount++;
                minute += sits[minute];
            }
            return least[0];
        }

        /** Of alike costs the longest sitting is kept: it changes later where two rows part first. */
        private void sitFrom(int minute, int[] costs, int changeCost, int minutes) {
            int sitting = 0;
            least[minute] = DEARER_THAN_ALL;
            sits[minute] = 1;
            for (int stay = 1; stay <= SITTING && minute + stay <= minutes; stay++) {
                sitting += costs[stay - 1];
                int then = minute + stay;
                int cost = sitting + (then < minutes ? changeCost + least[then] : 0);
                if (cost <= least[minute]) {
                    least[minute] = cost;
                    sits[minute] = stay;
                }
            }
        }
    }

    /** WORDS to look up, by minutes that there are. */
    private static final class Glossary {
        final int[] most = new int[GLOSSARY_MOST + 1];
        final int[] sets = new int[GLOSSARY_MOST + 1];

        /** From the highest WORD down, so that a lower one comes in wherever nothing is lost by it. */
        void find(State from, int minutes) {
            Arrays.fill(most, 0);
            Arrays.fill(sets, 0);
            for (int word = WORDS - 1; word >= 0; word--) {
                int look = from.words[LOOK * WORDS + word];
                int saved = savedBy(from, word);
                for (int t = minutes; t >= look; t--) {
                    if (most[t - look] + saved >= most[t]) {
                        most[t] = most[t - look] + saved;
                        sets[t] = sets[t - look] | 1 << word;
                    }
                }
            }
        }

        private static int savedBy(State from, int word) {
            int times = 0;
            for (int s = 0; s < from.sentenceCount; s++) {
                times += from.weightOf(1 << s) * from.timesIn(s, word);
            }
            return times * from.words[SPARES * WORDS + word];
        }
    }
}
