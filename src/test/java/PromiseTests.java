/** Each promise of the document by itself: ordinary inputs, the edges that it names, and wrong inputs. */
public final class PromiseTests {
    private static int wrong = 0;
    private static int promise = 0;
    private static int asked = 0;

    private static final int NONE = GlassBox.NONE;
    private static final int MIN = Integer.MIN_VALUE;
    private static final int MAX = Integer.MAX_VALUE;

    public static void main(String[] args) {
        promise = 1;
        newObject();
        promise = 2;
        words();
        promise = 3;
        terms();
        promise = 4;
        orders();
        promise = 5;
        openings();
        promise = 6;
        speakers();
        promise = 7;
        sentences();
        sixteenLongSentences();
        promise = 8;
        weights();
        promise = 9;
        rows();
        promise = 10;
        fixedSeconds();
        promise = 11;
        chances();
        promise = 12;
        fittingOpenings();
        promise = 13;
        leastLosses();
        moreLeastLosses();
        promise = 14;
        tables();
        tableOutlives();
        promise = 15;
        plans();
        promise = 16;
        feeding();
        promise = 17;
        ending();
        promise = 18;
        habits();
        habitLimits();
        promise = 19;
        faults();
        promise = 20;
        runs();
        askedWords();
        brokenTests();
        promise = 21;
        moves();
        promise = 22;
        worths();
        promise = 23;
        guessing();
        promise = 24;
        writing();
        promise = 25;
        boxes();
        promise = 26;
        chains();
        promise = 27;
        links();
        promise = 28;
        tiredMinutes();
        promise = 29;
        relieved();
        promise = 30;
        changes();
        promise = 31;
        glossaries();
        promise = 32;
        whoseErrors();
        promise = 33;
        readings();
        promise = 34;
        partings();
        promise = 35;
        images();
        promise = 36;
        goingBack();
        promise = 37;
        counts();
        promise = 38;
        statuses();
        System.out.println(wrong == 0 ? asked + " answers are as due" : wrong + " answers are not as due");
        if (wrong != 0) {
            System.exit(1);
        }
    }

    private static void due(String call, long got, long want) {
        asked++;
        if (got != want) {
            wrong++;
            System.out.println("promise " + promise + ": " + call + " answered " + got + ", due is " + want);
        }
    }

    // ---- help

    private static void feed(GlassBox x, int... bytes) {
        for (int i = 0; i < bytes.length || i == 0; i += 20) {
            int[] n = new int[5];
            for (int j = 0; j < 20; j++) {
                n[j / 4] = n[j / 4] << 8 | (i + j < bytes.length ? bytes[i + j] & 255 : 0);
            }
            x.feed(n[0], n[1], n[2], n[3], n[4]);
        }
        x.end(bytes.length);
    }

    private static void feed(GlassBox x, String text) {
        int[] bytes = new int[text.length()];
        for (int i = 0; i < bytes.length; i++) {
            bytes[i] = text.charAt(i);
        }
        feed(x, bytes);
    }

    private static int habit(GlassBox x, String text) {
        feed(x, text);
        return x.habit();
    }

    private static int sentence(GlassBox x, int a, int b, int c, int... row) {
        feed(x, row);
        return x.sentence(a, b, c);
    }

    private static String plan(GlassBox x, int sentence) {
        StringBuilder moves = new StringBuilder();
        for (int t = 0; t < 20; t++) {
            int move = x.plan(sentence, t);
            if (move != NONE) {
                moves.append(t == 0 ? "" : " ").append(move);
            }
        }
        return moves.toString();
    }

    private static String moved(GlassBox x) {
        StringBuilder moves = new StringBuilder();
        for (int t = 0; t < 20; t++) {
            int move = x.move(t);
            if (move != NONE) {
                moves.append(t == 0 ? "" : " ").append(move);
            }
        }
        return moves.toString();
    }

    private static void same(String what, String got, String want) {
        asked++;
        if (!got.equals(want)) {
            wrong++;
            System.out.println("promise " + promise + ": " + what + " is " + got + ", due is " + want);
        }
    }

    /** Two SENTENCES, 0 1 and 0 2, that part in SLOT 0 (VALUES 1 and 4). */
    private static GlassBox pair() {
        GlassBox x = new GlassBox();
        sentence(x, 1, 2, 3, 0, 1);
        sentence(x, 4, 2, 3, 0, 2);
        return x;
    }

    // ---- the promises

    private static void newObject() {
        GlassBox x = new GlassBox();
        for (int what = 0; what <= 4; what++) {
            due("count(" + what + ")", x.count(what), 0);
        }
        due("status()", x.status(), 0);
        due("fault()", x.fault(), NONE);
        due("best()", x.best(), 0);
        due("guessing()", x.guessing(), 0);
        due("worth(0)", x.worth(0), NONE);
        due("row(0, -1)", x.row(0, NONE), NONE);
        due("move(0)", x.move(0), NONE);
        due("link(0)", x.link(0), NONE);
        due("chain()", x.chain(), NONE);
        due("write(-1)", x.write(NONE), NONE);
        due("NONE", GlassBox.NONE, -1);
    }

    private static void words() {
        GlassBox x = new GlassBox();
        int[] first = {1, 5, 0};
        int[] least = {0, 1, 0};
        int[] most = {9, 60, 9};
        for (int what = 0; what < 3; what++) {
            for (int w : new int[] {0, 13, 29}) {
                due("word at first", x.word(w, what, most[what]), first[what]);
                due("word, most", x.word(w, what, least[what]), most[what]);
                due("word, above most", x.word(w, what, most[what] + 1), -1);
                due("status", x.status(), -1);
                due("word, below least", x.word(w, what, least[what] - 1), -1);
                due("word, unchanged", x.word(w, what, 3), least[what]);
                due("status", x.status(), 0);
            }
            due("word -1", x.word(-1, what, 2), -1);
            due("word 30", x.word(30, what, 2), -1);
        }
        due("what -1", x.word(0, -1, 2), -1);
        due("what 3", x.word(0, 3, 2), -1);
        due("extremes", x.word(MAX, MIN, MAX), -1);
        due("one word's", x.word(1, 0, 1), 1);
    }

    private static void terms() {
        GlassBox x = new GlassBox();
        int[] first = {6, 3, 1, 1, 20, 10, 4, 2, 5};
        int[] most = {60, 60, 100, 100, 1000, 1000, 1000, 100, 1000};
        for (int what = 0; what < 9; what++) {
            due("term at first", x.terms(what, most[what]), first[what]);
            due("above most", x.terms(what, most[what] + 1), -1);
            due("below 0", x.terms(what, -1), -1);
            due("most", x.terms(what, 0), most[what]);
            due("least", x.terms(what, 7), 0);
        }
        due("what 9", x.terms(9, 0), -1);
        due("what -1", x.terms(-1, 0), -1);
        due("extremes", x.terms(MIN, MAX), -1);
    }

    private static void orders() {
        GlassBox x = new GlassBox();
        due("order at first", x.order(5), 0);
        due("order 6", x.order(6), -1);
        due("order -1", x.order(-1), -1);
        for (int o = 0; o < 6; o++) {
            due("order", x.order(o), o == 0 ? 5 : o - 1);
        }
        // Which SLOT comes when, by what is DROPPED when: each costs its own WRONG to whose().
        int[][] slots = {{0, 1, 2}, {0, 2, 1}, {1, 0, 2}, {1, 2, 0}, {2, 0, 1}, {2, 1, 0}};
        GlassBox y = new GlassBox();
        sentence(y, 0, 0, 0, 5);
        int[] habits = {habit(y, "drop if done=0"), habit(y, "drop if done=1"), habit(y, "drop if done=2")};
        for (int o = 0; o < 6; o++) {
            y.order(o);
            for (int done = 0; done < 3; done++) {
                for (int slot = 0; slot < 3; slot++) {
                    int want = slots[o][done] == slot ? 6 : 0;
                    due("whose in order " + o, y.whose(habits[done], 0, slot, 0, 0), want);
                }
            }
        }
    }

    private static void openings() {
        GlassBox x = new GlassBox();
        due("slot 3", x.opening(3, 1, 1), -1);
        due("slot -1", x.opening(-1, 1, 1), -1);
        due("values 0", x.opening(0, 0, 1), -1);
        due("values 256", x.opening(0, 256, 1), -1);
        due("length 0", x.opening(0, 1, 0), -1);
        due("length 10", x.opening(0, 1, 10), -1);
        due("extremes", x.opening(MIN, MAX, MIN), -1);
        for (int i = 0; i < 12; i++) {
            due("opening", x.opening(i % 3, i % 2 == 0 ? 255 : 1, 1 + i % 9), i);
        }
        due("a 13th", x.opening(0, 1, 1), -5);
        due("status", x.status(), -5);
        due("a 13th that can't be", x.opening(0, 0, 1), -1);
        due("count", x.count(1), 12);
    }

    private static void speakers() {
        GlassBox x = pair();
        due("who at first", x.who(3), 0);
        due("who 4", x.who(4), -1);
        due("who -1", x.who(-1), -1);
        due("who", x.who(1), 3);
        x.weigh(0, 1, 0);
        due("fixed by who speaks", x.fixed(1, 0), 0);
        due("not without a weight", x.fixed(0, 0), NONE);
        due("who", x.who(0), 1);
        due("fixed by who speaks", x.fixed(1, 0), 1);
    }

    private static void sentences() {
        GlassBox x = new GlassBox();
        due("no row", x.sentence(0, 0, 0), -6);
        due("a VALUE is asked first", x.sentence(-1, 0, 0), -1);
        due("status", x.status(), -1);
        due("first", sentence(x, 0, 7, 3, 29), 0);
        due("tape empty", x.count(4), 0);
        due("the row is there", sentence(x, 1, 1, 1, 29), -4);
        due("tape empty, refused too", x.count(4), 0);
        due("longer", sentence(x, 1, 1, 1, 29, 29), 1);
        due("8 words", sentence(x, 1, 1, 1, 0, 1, 2, 3, 4, 5, 6, 7), 2);
        due("9 words", sentence(x, 1, 1, 1, 0, 1, 2, 3, 4, 5, 6, 7, 8), -6);
        due("tape empty, refused too", x.count(4), 0);
        due("word 30", sentence(x, 1, 1, 1, 3, 30), -6);
        due("word 255", sentence(x, 1, 1, 1, 255), -6);
        for (int i = 0; i < 3; i++) {
            due("value 8", sentence(x, i == 0 ? 8 : 0, i == 1 ? 8 : 0, i == 2 ? 8 : 0, 3), -1);
            due("value -1", sentence(x, i == 0 ? -1 : 0, i == 1 ? -1 : 0, i == 2 ? -1 : 0, 3), -1);
        }
        due("tape empty, refused too", x.count(4), 0);
        due("a VALUE is asked ahead of the row", sentence(x, 9, 0, 0, 30), -1);
        for (int i = 3; i < 16; i++) {
            due("more", sentence(x, 0, 0, 0, 10, i), i);
        }
        due("a 17th", sentence(x, 0, 0, 0, 11), -5);
        due("a 17th twice", sentence(x, 0, 0, 0, 29), -4);
        due("a 17th without a row", x.sentence(0, 0, 0), -6);
        due("count", x.count(0), 16);
    }

    /** As many places as there can be, and no more SENTENCES than can be asked for. */
    private static void sixteenLongSentences() {
        GlassBox x = new GlassBox();
        for (int s = 0; s < 16; s++) {
            due("sentence", sentence(x, s % 8, s / 2, 7 - s % 8, s, 16, 17, 18, 19, 20, 21, 22), s);
        }
        for (int w = 0; w < 30; w++) {
            x.word(w, 0, 9);
        }
        x.terms(4, 1000);
        // Behind the MOVES 0, 6, 12, 21, 30, 39, 48, 57 above HEAD; END at once.
        due("213 each", x.best(), 16 * 213);
        for (int s = 0; s < 16; s++) {
            same("plan", plan(x, s), "1 1 1 0 0 0 0 0 4");
            due("said 0 0 0: MEND", x.table(s, 8, 111), s % 8 != 0 ? 20 : s / 2 != 0 ? 21 : 22);
        }
        due("by habit", habit(x, "guess"), 0);
        due("213 each", x.worth(0), 16 * 213);
        due("fixed(16)", x.fixed(16, 0), NONE);
        due("odds(16)", x.odds(16, 0, 0, 0, 0), NONE);
        due("fits(16)", x.fits(16, 1, 0), NONE);
        due("row(16)", x.row(16, NONE), NONE);
        due("run(16)", x.run(0, 16), NONE);
        due("whose(16)", x.whose(0, 16, 0, 0, 0), NONE);
        due("read(16)", x.read(16), NONE);
        due("plan(16)", x.plan(16, 0), NONE);
        due("table(16)", x.table(16, 0, 0), NONE);
        due("parting", x.parting(0), NONE);
        due("the last one", x.odds(15, 1, 0, 7, 0), 1);
    }

    private static void weights() {
        GlassBox x = pair();
        for (int speaker = 0; speaker < 4; speaker++) {
            due("weight at first", x.weigh(1, speaker, 100), 1);
            due("101", x.weigh(1, speaker, 101), -1);
            due("-1", x.weigh(1, speaker, -1), -1);
            due("weight", x.weigh(1, speaker, 0), 100);
            due("weight", x.weigh(1, speaker, 10 + speaker), 0);
        }
        due("speaker 4", x.weigh(0, 4, 1), -1);
        due("speaker -1", x.weigh(0, -1, 1), -1);
        due("no such sentence", x.weigh(2, 0, 1), -2);
        due("status", x.status(), -2);
        due("no such sentence, nor speaker", x.weigh(2, 4, 1), -1);
        due("no such sentence, nor weight", x.weigh(15, 0, 101), -1);
        due("15", x.weigh(15, 0, 1), -2);
        due("others", x.weigh(0, 2, 5), 1);
        due("by speaker", x.weigh(1, 2, 5), 12);
    }

    private static void rows() {
        GlassBox x = new GlassBox();
        sentence(x, 0, 0, 0, 3, 29, 0);
        due("how many", x.row(0, NONE), 3);
        due("0", x.row(0, 0), 3);
        due("1", x.row(0, 1), 29);
        due("2", x.row(0, 2), 0);
        due("3", x.row(0, 3), NONE);
        due("-2", x.row(0, -2), NONE);
        due("no sentence", x.row(1, NONE), NONE);
        due("no sentence", x.row(-1, 0), NONE);
        due("extremes", x.row(MAX, MIN), NONE);
    }

    private static void fixedSeconds() {
        GlassBox x = pair();
        due("parts in word 1", x.fixed(0, 0), 1);
        due("the same", x.fixed(0, 1), 0);
        due("slot 3", x.fixed(0, 3), NONE);
        due("slot -1", x.fixed(0, -1), NONE);
        due("no sentence", x.fixed(2, 0), NONE);
        due("no sentence", x.fixed(-1, 0), NONE);
        sentence(x, 5, 2, 3, 0, 1, 7);
        due("begins another one: when OVER", x.fixed(0, 0), 2);
        due("goes on", x.fixed(2, 0), 2);
        x.weigh(2, 0, 0);
        due("weight 0 can't come", x.fixed(0, 0), 1);
        due("weight 0", x.fixed(2, 0), NONE);
    }

    private static void chances() {
        GlassBox x = pair();
        x.weigh(0, 0, 30);
        x.weigh(1, 0, 12);
        due("30 of 42", x.odds(0, 1, 0, 1, 0), 5);
        due("30 of 42", x.odds(0, 1, 0, 1, 1), 7);
        due("none", x.odds(0, 1, 0, 0, 0), 0);
        due("none", x.odds(0, 1, 0, 0, 1), 1);
        due("all", x.odds(0, 2, 0, 1, 0), 1);
        due("all", x.odds(0, 2, 0, 1, 1), 1);
        sentence(x, 1, 7, 7, 9);
        x.weigh(2, 0, 58);
        due("behind 0 words", x.odds(1, 0, 0, 1, 0), 22);
        due("behind 0 words", x.odds(1, 0, 0, 1, 1), 25);
        due("n 3", x.odds(0, 3, 0, 1, 0), NONE);
        due("n -1", x.odds(0, -1, 0, 1, 0), NONE);
        due("slot 3", x.odds(0, 1, 3, 1, 0), NONE);
        due("value 8", x.odds(0, 1, 0, 8, 0), NONE);
        due("value -1", x.odds(0, 1, 0, -1, 0), NONE);
        due("part 2", x.odds(0, 1, 0, 1, 2), NONE);
        due("part -1", x.odds(0, 1, 0, 1, -1), NONE);
        due("no sentence", x.odds(3, 1, 0, 1, 0), NONE);
        x.weigh(0, 0, 0);
        due("it can't come, another can", x.odds(0, 1, 0, 4, 0), 1);
        due("nothing can come", x.odds(0, 2, 0, 1, 0), NONE);
        due("nothing can come", x.odds(0, 2, 0, 1, 1), NONE);
        GlassBox y = pair();
        sentence(y, 6, 2, 3, 0, 1, 7);
        due("not OVER: the longer one can come", y.odds(0, 2, 0, 6, 1), 2);
    }

    private static void fittingOpenings() {
        GlassBox x = pair();
        due("none", x.fits(0, 1, 0), NONE);
        x.opening(0, 255, 5);
        x.opening(0, 1 << 1 | 1 << 4, 3);
        x.opening(0, 1 << 1 | 1 << 4 | 1, 3);
        x.opening(0, 1 << 1, 1);
        x.opening(1, 255, 1);
        due("shortest, first", x.fits(0, 1, 0), 1);
        due("also if it is fixed", x.fits(0, 2, 0), 3);
        due("the other", x.fits(1, 2, 0), 1);
        due("by slot", x.fits(1, 1, 1), 4);
        due("none of it", x.fits(1, 1, 2), NONE);
        due("n 0", x.fits(0, 0, 0), NONE);
        due("n 3", x.fits(0, 3, 0), NONE);
        due("slot 3", x.fits(0, 1, 3), NONE);
        due("slot -1", x.fits(0, 1, -1), NONE);
        due("no sentence", x.fits(2, 1, 0), NONE);
        sentence(x, 7, 2, 3, 0, 1, 7);
        due("not OVER: the longer one can come", x.fits(0, 2, 0), 0);
    }

    private static void leastLosses() {
        GlassBox x = new GlassBox();
        sentence(x, 1, 2, 3, 4);
        due("say, say late, say late", x.best(), 2);
        x.weigh(0, 0, 100);
        due("by weight", x.best(), 200);
        x.terms(3, 100);
        due("by LAG", x.best(), 20000);
        x.weigh(0, 0, 0);
        due("nobody says it", x.best(), 0);
        // Three WORDS of LOAD 9 with HEAD 6, RELIEF 3: 9-3, 18-6, 27-9 HELD behind the MOVES, so 0, 6, 12 above.
        GlassBox y = new GlassBox();
        sentence(y, 0, 0, 0, 1, 1, 1);
        y.word(1, 0, 9);
        due("FADE", y.best(), 18);
        y.terms(2, 10);
        due("FADE 10", y.best(), 180);
        y.terms(0, 0);
        due("HEAD 0", y.best(), 360);
        y.terms(1, 9);
        due("RELIEF 9", y.best(), 0);
    }

    private static void moreLeastLosses() {
        // SLOT 0 is not FIXED while HELD fades, so it is DROPPED at once.
        GlassBox x = pair();
        x.word(0, 0, 9);
        x.terms(0, 0);
        x.terms(1, 60);
        x.terms(2, 100);
        x.terms(4, 1000);
        x.terms(5, 1);
        x.terms(6, 1000);
        due("DROP in both, one late SLOT", x.best(), 4);
        same("plan", plan(x, 0), "3 1 1 4");
        x.opening(0, 255, 3);
        due("to OPEN costs 6", x.best(), 4);
        x.terms(7, 0);
        due("to OPEN costs nothing", x.best(), 2);
        same("plan", plan(x, 1), "2 1 1 4");
        x.terms(6, 0);
        x.terms(7, 100);
        due("to MEND costs a late SECOND alone", x.best(), 3);
        same("of alike ones the lowest VALUE", plan(x, 0), "11 1 1 4");
        same("mended", plan(x, 1), "11 1 1 20 4");
    }

    private static void tables() {
        GlassBox x = pair();
        due("ahead of any", x.table(0, 0, 0), NONE);
        for (int what = 0; what < 9; what++) {
            x.terms(what, 0);
        }
        due("all alike", x.best(), 0);
        due("WAIT", x.table(0, 0, 0), 0);
        due("OVER: SAY", x.table(0, 2, 0), 1);
        due("OVER, two DONE: SAY", x.table(0, 2, 110), 1);
        due("OVER, all DONE: END", x.table(0, 2, 111), 4);
        due("OVER, all DROPPED: END", x.table(0, 2, 1110), 4);
        due("all DONE: WAIT", x.table(0, 0, 1110), 0);
        x.terms(4, 100);
        due("no change of it yet", x.table(0, 2, 111), 4);
        x.terms(6, 1);
        x.best();
        due("said 0 0 0: MEND 0", x.table(0, 2, 111), 20);
        due("said 1 0 0: MEND 1", x.table(0, 2, 211), 21);
        due("said 1 2 0: MEND 2", x.table(0, 2, 231), 22);
        due("said 1 2 3: END", x.table(0, 2, 234), 4);
        due("OPEN, DROPPED: END", x.table(0, 2, 111 + 898), 4);
        due("the other: 1 2 3", x.table(1, 2, 234), 20);
        due("SLOT 0 is not FIXED", x.table(1, 0, 234), 0);
        due("SLOT 0 is not FIXED, MEND 1 later", x.table(1, 0, 111), 0);
        x.order(3);
        x.best();
        due("ORDER 1 2 0: said 2 3 1", x.table(0, 2, 111 + 231), 4);
        due("ORDER 1 2 0: said 2 3 4", x.table(0, 2, 111 + 234), 20);
        due("ORDER 1 2 0: said 2 0", x.table(0, 2, 11 + 20), 1);
        due("second 3", x.table(0, 3, 0), NONE);
        due("second -1", x.table(0, -1, 0), NONE);
        due("said 1111", x.table(0, 0, 1111), NONE);
        due("said -1", x.table(0, 0, -1), NONE);
        due("no sentence", x.table(2, 0, 0), NONE);
        due("no sentence", x.table(-1, 0, 0), NONE);
        due("extremes", x.table(MAX, MAX, MAX), NONE);
    }

    /** The latest TABLE is that of then. */
    private static void tableOutlives() {
        GlassBox x = pair();
        x.image(0);
        x.weigh(1, 0, 0);
        x.best();
        x.weigh(1, 0, 9);
        due("no WEIGHT then", x.table(1, 0, 0), NONE);
        due("no WEIGHT then", x.plan(1, 0), NONE);
        x.weigh(0, 0, 0);
        due("a WEIGHT then", x.table(0, 0, 0), 1);
        x.who(2);
        x.order(4);
        x.guessing();
        x.write(NONE);
        due("SLOT 0 was FIXED then", x.plan(0, 0), 1);
        sentence(x, 7, 7, 7, 8);
        due("a SENTENCE that was not there", x.table(2, 0, 0), NONE);
        x.back(0);
        due("BACK leaves it", x.table(0, 0, 0), 1);
        due("BACK leaves it", x.table(1, 0, 0), NONE);
        x.best();
        due("the latest", x.table(1, 0, 0), 0);
    }

    private static void plans() {
        GlassBox x = pair();
        due("ahead of any", x.plan(0, 0), NONE);
        x.best();
        // Waiting costs a second more each; guessing 1 at once costs sentence 1 a MEND and a late SECOND for it.
        due("best", x.best(), 4);
        same("plan", plan(x, 0), "0 1 1 1 4");
        same("plan", plan(x, 1), "0 1 1 1 4");
        x.weigh(0, 0, 100);
        due("best", x.best(), 100 + 2 + 4);
        same("plan, guessed", plan(x, 0), "11 1 1 4");
        same("plan, mended", plan(x, 1), "11 1 1 20 4");
        due("-1", x.plan(0, -1), NONE);
        due("behind the END", x.plan(0, 4), NONE);
        due("far behind", x.plan(0, MAX), NONE);
        due("least", x.plan(0, MIN), NONE);
        due("no sentence", x.plan(2, 0), NONE);
        due("no sentence", x.plan(-1, 0), NONE);
    }

    private static void feeding() {
        GlassBox x = new GlassBox();
        due("20", x.feed(0x01020304, 0x05060708, 0, 0, 0), 20);
        x.end(8);
        due("sentence", x.sentence(0, 0, 0), 0);
        for (int i = 0; i < 8; i++) {
            due("the highest first", x.row(0, i), i + 1);
        }
        x.feed(0, 0, 0, 0, 0x1D);
        x.end(20);
        for (int i = 1; i <= 19; i++) {
            due("feed", x.feed(-1, MIN, MAX, 0, 1), 20 + 20 * i);
        }
        due("no room", x.feed(0, 0, 0, 0, 0), NONE);
        due("still 400", x.count(4), 400);
        due("381", x.end(381), 381);
        due("no room for 20", x.feed(0, 0, 0, 0, 0), NONE);
        due("380", x.end(380), 380);
        due("just room", x.feed(0, 0, 0, 0, 0), 400);
    }

    private static void ending() {
        GlassBox x = new GlassBox();
        due("0 of none", x.end(0), 0);
        due("1 of none", x.end(1), NONE);
        x.feed(0x1D000000, 0, 0, 0, 0);
        due("21 of 20", x.end(21), NONE);
        due("-1", x.end(-1), NONE);
        due("least", x.end(MIN), NONE);
        due("unchanged", x.count(4), 20);
        due("20", x.end(20), 20);
        due("1", x.end(1), 1);
        due("2 of 1", x.end(2), NONE);
        due("count", x.count(4), 1);
        due("the first byte", x.sentence(0, 0, 0), 0);
        due("the first byte", x.row(0, 0), 29);
        due("status is another's", x.status(), 0);
    }

    private static void habits() {
        GlassBox x = new GlassBox();
        String[] can = {
            "wait", " say ; open;drop ;guess;mend ",
            "say if known and not over or held<1",
            "say if not not not (known or (over)) and [1+2]*3/held-4 = who",
            "guess if likely>50 and left<3 and second=2 and done=1 and wrong=0 and load>head",
            "wait;wait;wait;wait;wait;wait;wait;wait;wait;wait;wait;wait",
            "say if((((((((known))))))))",
            "say if[[[[[[[[100000]]]]]]]]=00000000000000000000000000000000001",
        };
        for (int i = 0; i < can.length; i++) {
            due(can[i], habit(x, can[i]), i);
            due("fault", x.fault(), NONE);
            due("tape empty", x.count(4), 0);
        }
        due("a 9th", habit(x, "say"), -5);
        due("status", x.status(), -5);
        due("a 9th that can't be", habit(x, "sai"), -5);
        due("not read", x.fault(), NONE);
        due("count", x.count(2), 8);
        GlassBox y = new GlassBox();
        due("can't be", habit(y, "wait if"), -6);
        due("tape empty", y.count(4), 0);
        due("status", y.status(), -6);
        due("none", y.count(2), 0);
        due("nothing at all", y.habit(), -6);
        due("fault", y.fault(), 0);
        due("blanks", habit(y, "   "), -6);
        due("fault", y.fault(), 3);
        due("well", habit(y, "wait"), 0);
        due("fault", y.fault(), NONE);
    }

    private static String times(int n, String text) {
        StringBuilder all = new StringBuilder();
        for (int i = 0; i < n; i++) {
            all.append(text);
        }
        return all.toString();
    }

    private static void habitLimits() {
        GlassBox x = new GlassBox();
        String fifty = "wait if " + times(24, "1=1or ") + "1=1";
        due("50 parts", habit(x, fifty), 0);
        due("51 parts", habit(x, fifty + " or known"), -6);
        due("at the 51st", x.fault(), fifty.length() + 4);
        due("51 over more clauses", habit(x, fifty + ";say;say if over"), -6);
        due("at the 51st", x.fault(), fifty.length() + 12);
        due("words and numbers", habit(x, "say if " + times(49, "known and ") + "over"), -6);
        due("longer than the tape: cut to 400", x.fault() < 400 ? 1 : 0, 1);
        String plains = "say if 1=1" + times(48, " or over");
        due("50 with plains", habit(x, plains), 1);
        due("51 with plains", habit(x, plains + " or 1"), -6);
        due("at the 51st", x.fault(), plains.length() + 4);
        due("8 brackets", habit(x, "say if " + times(4, "(") + times(4, "[") + "1" + times(4, "]") + "=1" + times(4, ")")), 2);
        due("9 brackets", habit(x, "say if " + times(4, "(") + times(5, "[") + "1" + times(5, "]") + "=1" + times(4, ")")), -6);
        due("at the 9th", x.fault(), 15);
        due("9 round ones", habit(x, "say if " + times(9, "(") + "known" + times(9, ")")), -6);
        due("at the 9th", x.fault(), 15);
        due("beside one another", habit(x, "say if " + times(9, "(known)and") + "(over)"), 3);
        due("100000", habit(x, "say if 100000=100000"), 4);
        due("100001", habit(x, "say if 100000=100001"), -6);
        due("at it", x.fault(), 14);
        due("far more", habit(x, "say if 99999999999999999999999999=1"), -6);
        due("at it", x.fault(), 7);
        String twelve = times(11, "say;") + "say";
        due("12 clauses", habit(x, twelve), 5);
        x.image(0);
        due("13 clauses", habit(x, twelve + " ; say"), -6);
        due("at its first token", x.fault(), twelve.length() + 3);
        due("13 with an end", habit(x, twelve + ";  "), -6);
        due("at the end", x.fault(), twelve.length() + 3);
        due("400 tokens", habit(x, times(400, ";")), -6);
        due("at the first", x.fault(), 0);
        due("400 bytes", habit(x, "say if known" + times(388, " ")), 6);
        x.back(0);
        due("many nots", habit(x, "say if " + times(97, "not ") + "known"), 6);
    }

    private static void faults() {
        GlassBox x = new GlassBox();
        Object[][] all = {
            {"sai", 0}, {"  Say", 2}, {"say 5", 4}, {"say5", 3}, {"sayif known", 0}, {"say if", 6}, {"say if ", 7},
            {"say;", 4}, {";say", 0}, {"say;;say", 4}, {"say if known over", 13}, {"say if known;", 13},
            {"say if known + 1", 13}, {"say if 1", 8}, {"say if 1 + 1", 12}, {"say if 1 < 2 < 3", 13}, {"say if 1 <", 10},
            {"say if (known", 13}, {"say if known)", 12}, {"say if (1) = 1", 9}, {"say if [1 = 1", 10}, {"say if [known] = 1", 8},
            {"say if 1 = known", 11}, {"say if 1 = not 2", 11}, {"say if not", 10}, {"say if known and", 16},
            {"say if known or or over", 16}, {"say if -1 = 1", 7}, {"say if 1 = -1", 11}, {"say if 1 + * 2 = 3", 11},
            {"say if 1 = 1]", 12}, {"say if 1 = 1)", 12}, {"say if [1] 2 = 1", 11}, {"say if guess = 1", 7}, {"say if 1a = 1", 8},
            {"sayz", 0}, {"asay", 0}, {"say`", 3}, {"say{", 3}, {"say/", 3}, {"say if 1:=1", 8},
            {"say\tif known", 3}, {"say if known \u00e9", 13}, {"end", 0}, {"say if [] = 1", 8}, {"say if () ", 8},
            {"say if known if over", 13}, {"say say", 4}, {"say if 2 >= 1", 10}, {"say if 1 = 1 = 1", 13}, {"1", 0},
        };
        for (Object[] one : all) {
            due((String) one[0], habit(x, (String) one[0]), -6);
            due("fault of " + one[0], x.fault(), (Integer) one[1]);
        }
        due("another call leaves it", x.order(0), 0);
        due("fault", x.fault(), 0);
        x.image(0);
        habit(x, "say  say");
        x.back(0);
        due("BACK leaves it", x.fault(), 5);
    }

    private static void runs() {
        GlassBox x = pair();
        due("no text", x.run(0, 0), NONE);
        habit(x, "guess;mend;wait");
        due("guessed right, two late", x.run(0, 0), 2);
        same("moves", moved(x), "11 0 1 1 4");
        due("guessed wrong, mended, two late", x.run(0, 1), 6);
        same("moves", moved(x), "11 20 1 1 4");
        habit(x, "guess if second=0;mend if over");
        due("mended late", x.run(1, 1), 4 + 2);
        same("mend ahead of say", moved(x), "11 1 20 1 4");
        habit(x, "drop");
        due("all dropped, one late", x.run(2, 0), 30 + 1);
        same("moves", moved(x), "3 3 3 4");
        habit(x, "guess;say;wait");
        due("said wrong", x.run(3, 1), 20 + 1);
        same("moves", moved(x), "11 1 1 4");
        habit(x, "open;say");
        due("no opening", x.run(4, 0), 2);
        same("moves", moved(x), "0 1 1 1 4");
        x.opening(0, 255, 9);
        due("an opening of 9", x.run(4, 0), 18 + 1);
        same("moves", moved(x), "2 1 1 4");
        x.weigh(1, 0, 2);
        due("the greatest weight", x.run(3, 1), 1);
        same("moves", moved(x), "14 1 1 4");
        x.terms(0, 0);
        x.terms(1, 0);
        due("held 1, 2, 2", x.run(3, 1), 1 + 1 + 2 + 2);
        due("no text", x.run(5, 0), NONE);
        due("no text", x.run(-1, 0), NONE);
        due("no sentence", x.run(0, 2), NONE);
        due("no sentence", x.run(0, -1), NONE);
        x.weigh(0, 0, 0);
        due("no weight", x.run(0, 0), NONE);
        x.who(1);
        due("a weight of who speaks", x.run(0, 0), 0 + 1 + 2 + 2 + 1 + 2 + 1);
        // One that can be mended in two SLOTS is mended in the lower one, in every ORDER.
        GlassBox y = new GlassBox();
        sentence(y, 1, 1, 0, 0, 0, 1);
        sentence(y, 2, 2, 0, 0, 0, 2);
        habit(y, "guess;mend");
        String[] due = {
            "11 11 20 21 1 4", "11 1 20 1 4", "11 11 20 21 1 4", "11 1 21 1 4", "1 11 20 1 4", "1 11 21 1 4",
        };
        for (int order = 0; order < 6; order++) {
            y.order(order);
            y.run(0, 1);
            same("moves in order " + order, moved(y), due[order]);
        }
    }

    /** The MOVE is 3 in that SECOND if the SUM is that number then, and not if it is any near it. */
    private static void sum(GlassBox x, int sentence, int second, String sum, int value) {
        for (int off = -1; off <= 1; off++) {
            x.back(1);
            int number = value + off;
            String text = "guess if second=0;drop if second=" + second + " and " + sum + "="
                + (number < 0 ? "[0-" + -number + "]" : "" + number) + ";wait";
            due("habit", habit(x, text), 0);
            x.run(0, sentence);
            due(text, x.move(second) == 3 ? 1 : 0, off == 0 ? 1 : 0);
        }
    }

    private static void askedWords() {
        GlassBox x = new GlassBox();
        // WORDS 0, 1, 2 load 4, 2, 1; SLOT 0 is FIXED by the second WORD, SLOT 1 by the third.
        sentence(x, 1, 5, 3, 0, 1, 2);
        sentence(x, 4, 5, 3, 0, 2, 1);
        sentence(x, 4, 6, 3, 0, 2, 2);
        x.word(0, 0, 4);
        x.word(1, 0, 2);
        x.weigh(0, 3, 51);
        x.weigh(1, 3, 26);
        x.weigh(2, 3, 13);
        x.who(3);
        x.image(1);
        sum(x, 1, 1, "second", 1);
        sum(x, 1, 1, "who", 3);
        sum(x, 1, 1, "head", 6);
        sum(x, 1, 1, "done", 1);
        sum(x, 1, 1, "wrong", 1);
        sum(x, 0, 1, "wrong", 0);
        sum(x, 1, 1, "load", 5);
        sum(x, 1, 1, "held", 2);
        sum(x, 1, 1, "left", 2);
        sum(x, 1, 1, "likely", 66);
        sum(x, 0, 1, "likely", 100);
        sum(x, 0, 1, "left", 1);
        sum(x, 2, 2, "load", 6);
        sum(x, 2, 3, "load", 6);
        sum(x, 2, 3, "likely", 100);
        x.back(1);
        x.terms(1, 60);
        x.terms(0, 17);
        x.image(1);
        sum(x, 1, 1, "held", 0);
        sum(x, 1, 1, "head", 17);
        x.back(1);
        habit(x, "guess if left=3-1 and likely=56 and held=4 and not known and not over;wait");
        due("second 0", x.run(0, 0) >= 0 ? x.move(0) : NONE, 11);
        // Behind the last SLOT there is no NEXT: 0 left, 0 likely, not known.
        GlassBox y = pair();
        habit(y, "guess if second=0;mend if done=3 and left=0 and likely=0 and not known and over;say");
        y.run(0, 1);
        same("without NEXT", moved(y), "11 1 1 20 4");
        habit(y, "guess if second=0;mend if done=3 and known;say");
        y.run(1, 1);
        same("without NEXT not known", moved(y), "11 1 1 4");
        habit(y, "drop if known;wait");
        y.run(2, 1);
        same("known", moved(y), "0 3 3 3 4");
        habit(y, "drop if over;wait");
        y.run(3, 1);
        same("over", moved(y), "0 0 3 3 3 4");
    }

    private static void test(GlassBox x, String test, boolean so) {
        x.back(1);
        due(test + " can be read", habit(x, "drop if " + test + ";wait"), 0);
        x.run(0, 0);
        due(test, x.move(0), so ? 3 : 0);
    }

    private static void brokenTests() {
        GlassBox x = pair();
        x.image(1);
        test(x, "1/0=1", false);
        test(x, "not 1/0=1", false);
        test(x, "1/0=1 or 1=1", false);
        test(x, "1=1 or 1/0=1", true);
        test(x, "1=2 or 1/0=1", false);
        test(x, "1=2 and 1/0=1", false);
        test(x, "not (1=2 and 1/0=1)", true);
        test(x, "not (1=1 and 1/0=1)", false);
        test(x, "1=2 and 1/0=1 or 1=1", true);
        test(x, "(1=1 or 1/0=1) and 1=1", true);
        test(x, "100000*10000=10000*100000", true);
        test(x, "100000*10000+1>0", false);
        test(x, "100000*10000+1<0", false);
        test(x, "0-100000*10000<0", true);
        test(x, "0-100000*10000-1<0", false);
        test(x, "100000*100000/100000>0", false);
        test(x, "[0-7]/2=0-3", true);
        test(x, "7/[0-2]=0-3", true);
        test(x, "1+2*3=7", true);
        test(x, "2*3+1=7", true);
        test(x, "7-2-1=4", true);
        test(x, "8/4/2=1", true);
        test(x, "7/2*2=6", true);
        test(x, "[1+2]*3=9", true);
        test(x, "not 1=2 and 1=2", false);
        test(x, "not (1=2 and 1=2)", true);
        test(x, "1=1 or 1=1 and 1=2", true);
        test(x, "(1=1 or 1=1) and 1=2", false);
        test(x, "not not 1=1", true);
        test(x, "not not not 1=1", false);
        test(x, "1<2", true);
        test(x, "2<2", false);
        test(x, "2>1", true);
        test(x, "2>2", false);
        test(x, "known", false);
        test(x, "not over", true);
        GlassBox y = pair();
        habit(y, "drop if 1/0=0;open;mend;guess if 2<1;wait if 1=1;drop");
        y.run(0, 0);
        same("the first that is so and can be done", moved(y), "0 0 3 3 3 4");
    }

    private static void moves() {
        GlassBox x = pair();
        habit(x, "wait");
        habit(x, "drop");
        due("ahead of any", x.move(0), NONE);
        x.run(0, 1);
        x.image(0);
        same("moves", moved(x), "0 0 1 1 1 4");
        x.worth(1);
        x.whose(1, 0, 0, 0, 0);
        feed(x, 4);
        x.read(0);
        x.parting(0);
        x.run(1, 2);
        x.run(2, 0);
        same("they stay", moved(x), "0 0 1 1 1 4");
        x.run(1, 0);
        same("the latest", moved(x), "3 3 3 4");
        x.back(0);
        same("BACK leaves them", moved(x), "3 3 3 4");
        due("-1", x.move(-1), NONE);
        due("behind the END", x.move(4), NONE);
        due("least", x.move(MIN), NONE);
        due("most", x.move(MAX), NONE);
    }

    private static void worths() {
        GlassBox x = pair();
        habit(x, "wait");
        habit(x, "guess;mend;say");
        due("3 each", x.worth(0), 6);
        x.weigh(0, 0, 100);
        x.weigh(1, 0, 7);
        due("by weight", x.worth(0), 3 * 107);
        due("guessed 1", x.worth(1), 100 + 7 * (4 + 2));
        x.weigh(0, 0, 0);
        due("without it", x.worth(1), 7);
        x.weigh(1, 0, 0);
        due("nobody says anything", x.worth(1), 0);
        x.who(2);
        due("another", x.worth(0), 6);
        due("no text", x.worth(2), NONE);
        due("no text", x.worth(-1), NONE);
        due("most", x.worth(MAX), NONE);
    }

    private static void guessing() {
        GlassBox x = pair();
        due("not worth it", x.guessing(), 0);
        x.weigh(0, 0, 100);
        due("202 without, 106 with", x.guessing(), 96);
        due("best knows it", x.best(), 106);
        x.opening(0, 255, 1);
        x.terms(7, 0);
        due("opened: 101 without, and with", x.guessing(), 0);
        due("best", x.best(), 101);
        x.terms(7, 1);
        due("202 without, 106 with", x.guessing(), 96);
    }

    private static void writing() {
        GlassBox x = new GlassBox();
        sentence(x, 0, 0, 0, 1, 2, 3);
        for (int w = 1; w <= 3; w++) {
            x.word(w, 0, 9);
        }
        due("6, 12, 18 held", x.best(), 18);
        due("1", x.write(1), 15);
        due("2", x.write(2), 15);
        due("3", x.write(3), 9);
        due("another", x.write(4), 0);
        due("most, first", x.write(NONE), 1);
        due("none is written yet", x.write(1), 15);
        x.word(1, 0, 0);
        due("no load", x.write(1), 0);
        x.weigh(0, 0, 10);
        due("by weight", x.write(2), 30);
        due("2 and 3 are alike now", x.write(3), 30);
        due("most, first", x.write(NONE), 2);
        due("30", x.write(30), NONE);
        due("-2", x.write(-2), NONE);
        due("most", x.write(MAX), NONE);
        x.weigh(0, 0, 1);
        x.terms(0, 8);
        due("9 held, 1 above", x.best(), 1);
        due("just above 0", x.write(3), 1);
        due("just above 0", x.write(NONE), 2);
        x.terms(2, 0);
        due("nothing fades", x.write(2), 0);
        due("none is worth it", x.write(NONE), NONE);
    }

    private static void boxes() {
        GlassBox x = new GlassBox();
        due("lag 61", x.box(61, 0, 0), -1);
        due("lag -1", x.box(-1, 0, 0), -1);
        due("keeps 101", x.box(0, 101, 0), -1);
        due("keeps -1", x.box(0, -1, 0), -1);
        due("limit 301", x.box(0, 0, 301), -1);
        due("limit -1", x.box(0, 0, -1), -1);
        for (int i = 0; i < 6; i++) {
            due("box", x.box(i % 2 * 60, i % 2 * 100, i % 2 * 300), i);
        }
        due("a 7th", x.box(0, 0, 0), -5);
        due("status", x.status(), -5);
        due("a 7th that can't be", x.box(0, 0, 301), -1);
        due("count", x.count(3), 6);
    }

    private static void chains() {
        GlassBox x = new GlassBox();
        due("without boxes", x.chain(), NONE);
        x.box(10, 33, 300);
        due("one", x.chain(), 330000);
        x.box(10, 33, 300);
        due("two", x.chain(), 108900);
        x.box(0, 33, 9);
        due("the third must be first", x.chain(), 35937);
        due("the third must be first", x.link(0), 2);
        due("of alike ones the first", x.link(1), 0);
        GlassBox y = new GlassBox();
        y.box(10, 100, 300);
        y.box(10, 50, 10);
        due("at its limit", y.chain(), 500000);
        due("of alike ones the first", y.link(0), 0);
        GlassBox z = new GlassBox();
        z.box(11, 33, 10);
        z.box(11, 33, 10);
        due("one is beyond: 108900 halved", z.chain(), 54450);
        z.box(11, 33, 21);
        due("54450 times 33 hundredths", z.chain(), 17968);
        z.box(1, 1, 21);
        due("10000, 3300, 1089, 359 halved", z.chain(), 179);
        GlassBox zero = new GlassBox();
        zero.box(0, 0, 0);
        zero.box(0, 0, 0);
        due("nothing is kept", zero.chain(), 0);
        due("a row all the same", zero.link(1), 1);
    }

    private static void links() {
        GlassBox x = new GlassBox();
        x.image(0);
        for (int i = 0; i < 6; i++) {
            x.box(1, 100, 5 - i);
        }
        due("ahead of any", x.link(0), NONE);
        due("all is kept", x.chain(), 1000000);
        for (int i = 0; i < 6; i++) {
            due("the lowest limit first", x.link(i), 5 - i);
        }
        due("6", x.link(6), NONE);
        due("-1", x.link(-1), NONE);
        x.back(0);
        due("BACK leaves it", x.link(0), 5);
        due("no boxes", x.chain(), NONE);
        due("the latest still", x.link(5), 0);
        x.box(0, 0, 0);
        due("not asked for yet", x.link(5), 0);
        x.chain();
        due("the latest", x.link(0), 0);
        due("the latest", x.link(1), NONE);
    }

    private static void tiredMinutes() {
        GlassBox x = new GlassBox();
        due("at first", x.tired(0, 1000), 0);
        due("1001", x.tired(0, 1001), -1);
        due("-1", x.tired(0, -1), -1);
        due("what it was", x.tired(0, 0), 1000);
        due("59", x.tired(59, 3), 0);
        due("60", x.tired(60, 3), -1);
        due("minute -1", x.tired(-1, 3), -1);
        due("status", x.status(), -1);
        due("59", x.tired(59, 4), 3);
        due("58", x.tired(58, 4), 0);
    }

    private static void relieved() {
        GlassBox x = new GlassBox();
        due("0 minutes", x.relieve(0), NONE);
        due("-1", x.relieve(-1), NONE);
        due("121", x.relieve(121), NONE);
        due("1", x.relieve(1), 0);
        due("60 without a change", x.relieve(60), 0);
        due("none", x.change(NONE), 0);
        due("61 with one", x.relieve(61), 5);
        due("as late as can be", x.change(0), 60);
        due("120", x.relieve(120), 5);
        due("one", x.change(NONE), 1);
        x.tired(59, 1000);
        due("not the 60th minute", x.relieve(60), 5);
        due("later", x.change(0), 59);
        due("120", x.relieve(120), 10);
        due("59 and 59 on", x.change(1), 118);
        x.tired(0, 7);
        due("every beginning costs 7", x.relieve(1), 7);
        due("7 and 12 and 12", x.relieve(120), 31);
        x.terms(8, 0);
        due("7 each", x.relieve(120), 21);
        x.terms(8, 1000);
        due("59 and 60: one change, one 60th", x.relieve(119), 7 + 1000 + 7 + 1000);
        due("the later one", x.change(0), 60);
        GlassBox y = new GlassBox();
        y.terms(8, 0);
        due("nothing costs anything", y.relieve(120), 0);
        due("no change but the last that can be", y.change(0), 60);
        due("none behind it", y.change(NONE), 1);
    }

    private static void changes() {
        GlassBox x = new GlassBox();
        due("ahead of any", x.change(0), NONE);
        x.image(0);
        x.terms(8, 1);
        for (int minute = 1; minute < 60; minute++) {
            x.tired(minute, 10);
        }
        due("each minute anew", x.relieve(120), 119);
        due("how many", x.change(NONE), 119);
        for (int i = 0; i < 119; i++) {
            due("minute", x.change(i), i + 1);
        }
        due("119", x.change(119), NONE);
        due("-2", x.change(-2), NONE);
        due("not so many minutes", x.relieve(121), NONE);
        x.back(0);
        due("BACK leaves them", x.change(NONE), 119);
        due("all is as it was", x.relieve(3), 0);
        due("the latest", x.change(NONE), 0);
        due("the latest", x.change(0), NONE);
    }

    private static void glossaries() {
        GlassBox x = new GlassBox();
        due("nothing to save", x.glossary(240, 0), 0);
        due("all the same the lowest WORDS", x.glossary(240, 1), (1 << 30) - 1);
        due("two of them", x.glossary(14, 1), 3);
        due("none", x.glossary(4, 1), 0);
        due("-1", x.glossary(-1, 0), NONE);
        due("241", x.glossary(241, 0), NONE);
        due("what 2", x.glossary(5, 2), NONE);
        due("what -1", x.glossary(5, -1), NONE);
        sentence(x, 0, 0, 0, 10, 11, 12, 11);
        x.word(10, 2, 5);
        x.word(11, 2, 1);
        x.word(12, 2, 3);
        x.word(10, 1, 10);
        due("10, or 11 and 12", x.glossary(10, 0), 5);
        due("the lowest in which they part", x.glossary(10, 1), 1 << 10);
        due("12", x.glossary(5, 0), 3);
        due("12", x.glossary(5, 1), 1 << 12);
        due("10 and 12", x.glossary(15, 0), 8);
        due("10 and 12", x.glossary(15, 1), 1 << 10 | 1 << 12);
        due("all three", x.glossary(20, 0), 10);
        due("all three", x.glossary(20, 1), 7 << 10);
        due("and what there is time for", x.glossary(25, 1), 7 << 10 | 1);
        x.weigh(0, 0, 100);
        due("by weight", x.glossary(20, 0), 1000);
        sentence(x, 0, 0, 0, 10);
        due("in all of them", x.glossary(10, 0), 505);
        x.who(1);
        due("of who speaks", x.glossary(10, 0), 10);
        x.weigh(0, 1, 0);
        due("of who speaks", x.glossary(240, 0), 5);
    }

    private static void whoseErrors() {
        GlassBox x = pair();
        habit(x, "guess;say");
        due("nobody's", x.whose(0, 0, 0, 1, 1), 0);
        due("the speaker's", x.whose(0, 0, 0, 0, 1), 1);
        due("hers", x.whose(0, 1, 0, 4, 1), 2);
        due("both", x.whose(0, 1, 0, 0, 1), 3);
        due("the third one's", x.whose(0, 0, 0, 1, 0), 4);
        due("the first and third one's", x.whose(0, 0, 0, 0, 0), 5);
        due("hers and the third one's", x.whose(0, 1, 0, 4, 4), 6);
        due("all", x.whose(0, 1, 0, 1, 4), 7);
        habit(x, "open");
        x.opening(0, 255, 1);
        due("no VALUE", x.whose(1, 0, 0, 1, 1), 6);
        habit(x, "guess;mend");
        due("mended by the END", x.whose(2, 1, 0, 4, 4), 0);
        due("text 3", x.whose(3, 0, 0, 1, 1), NONE);
        due("text -1", x.whose(-1, 0, 0, 1, 1), NONE);
        due("sentence 2", x.whose(0, 2, 0, 1, 1), NONE);
        due("sentence -1", x.whose(0, -1, 0, 1, 1), NONE);
        due("slot 3", x.whose(0, 0, 3, 1, 1), NONE);
        due("slot -1", x.whose(0, 0, -1, 1, 1), NONE);
        due("meant 8", x.whose(0, 0, 0, 8, 1), NONE);
        due("meant -1", x.whose(0, 0, 0, -1, 1), NONE);
        due("third 8", x.whose(0, 0, 0, 1, 8), NONE);
        due("third -1", x.whose(0, 0, 0, 1, -1), NONE);
    }

    private static int reading(GlassBox x, int sentence, int... bytes) {
        feed(x, bytes);
        return x.read(sentence);
    }

    private static void readings() {
        GlassBox x = pair();
        due("no texts", reading(x, 0, 255), 0);
        habit(x, "wait");
        habit(x, "say");
        habit(x, "guess");
        habit(x, "wait if second=0");
        due("0", reading(x, 0, 0, 0, 1, 1, 1, 4), 1);
        due("1 and 3", reading(x, 0, 0, 1, 1, 1, 4), 2 | 8);
        due("2", reading(x, 0, 11, 1, 1, 4), 4);
        due("not heard", reading(x, 0, 255, 255, 255, 255), 4);
        due("not heard", reading(x, 0, 255, 255, 255, 255, 255), 2 | 8);
        due("the END too", reading(x, 0, 255, 255, 255, 255, 255, 255), 1);
        due("another byte", reading(x, 0, 255, 255, 255, 254), 0);
        due("too short", reading(x, 0, 0, 1, 1, 1), 0);
        due("too long", reading(x, 0, 0, 1, 1, 1, 4, 255), 0);
        due("by the sentence", reading(x, 1, 11, 1, 1, 4), 4);
        due("nothing heard", x.read(0), 0);
        due("empty", x.count(4), 0);
        feed(x, 1, 2, 3);
        due("no sentence", x.read(2), NONE);
        due("empty", x.count(4), 0);
        due("no sentence", x.read(-1), NONE);
    }

    private static void partings() {
        GlassBox x = pair();
        due("no texts", x.parting(0), NONE);
        habit(x, "say");
        due("no pair", x.parting(0), NONE);
        due("no pair", x.parting(1), NONE);
        habit(x, "wait if second=0");
        due("no pair that does otherwise", x.parting(0), NONE);
        due("no pair that does otherwise", x.parting(1), NONE);
        habit(x, "guess");
        due("two pairs in both", x.parting(0), 0);
        due("two pairs in both", x.parting(1), 2);
        habit(x, "guess;mend");
        due("sentence 1 is mended", x.parting(0), 1);
        due("all pairs but one", x.parting(1), 5);
        x.weigh(1, 0, 0);
        due("it is not said, all is FIXED for the other", x.parting(0), 0);
        due("only the second text waits", x.parting(1), 3);
        x.weigh(0, 0, 0);
        due("nothing is said", x.parting(0), NONE);
        due("nothing is said", x.parting(1), NONE);
        due("what 2", x.parting(2), NONE);
        due("what -1", x.parting(-1), NONE);
        GlassBox y = pair();
        habit(y, "wait if second<1");
        habit(y, "wait if second<2");
        due("a WAIT counts", y.parting(1), 1);
    }

    private static void images() {
        GlassBox x = pair();
        due("0", x.image(0), 0);
        due("1", x.image(1), 0);
        due("2", x.image(2), -1);
        due("-1", x.image(-1), -1);
        due("status", x.status(), -1);
        x.terms(0, 1);
        due("again", x.image(1), 0);
        x.terms(0, 2);
        due("status", x.status(), 0);
        x.back(1);
        due("the latest one", x.terms(0, 9), 1);
        x.back(0);
        due("the first one", x.terms(0, 9), 6);
    }

    private static void goingBack() {
        GlassBox x = new GlassBox();
        due("not kept", x.back(0), -2);
        due("status", x.status(), -2);
        due("2", x.back(2), -1);
        due("-1", x.back(-1), -1);
        sentence(x, 1, 2, 3, 4, 5);
        habit(x, "wait");
        x.opening(0, 255, 9);
        x.box(1, 50, 3);
        x.image(1);
        due("the other is not kept", x.back(0), -2);
        x.word(4, 0, 9);
        x.word(4, 1, 9);
        x.word(4, 2, 9);
        for (int what = 0; what < 9; what++) {
            x.terms(what, 50);
        }
        x.order(3);
        x.who(2);
        x.opening(1, 1, 1);
        sentence(x, 1, 2, 3, 6);
        x.weigh(0, 0, 77);
        habit(x, "drop");
        x.box(2, 3, 4);
        x.tired(3, 33);
        feed(x, 29, 29, 29);
        due("back", x.back(1), 0);
        due("status", x.status(), 0);
        due("the TAPE stays", x.count(4), 3);
        for (int what = 0; what < 4; what++) {
            due("count(" + what + ")", x.count(what), 1);
        }
        due("who", x.who(0), 0);
        due("order", x.order(0), 0);
        due("LOAD", x.word(4, 0, 2), 1);
        due("LOOK", x.word(4, 1, 2), 5);
        due("SPARES", x.word(4, 2, 2), 0);
        int[] first = {6, 3, 1, 1, 20, 10, 4, 2, 5};
        for (int what = 0; what < 9; what++) {
            due("terms", x.terms(what, 3), first[what]);
        }
        due("weight", x.weigh(0, 0, 1), 1);
        due("tired", x.tired(3, 0), 0);
        due("chain", x.chain(), 500000);
        x.run(0, 0);
        due("the habit of then", x.move(0), 0);
        due("a place for another", sentence(x, 7, 7, 7, 6), 1);
        due("images stay", x.back(1), 0);
        due("images stay", x.count(0), 1);
        due("changed behind BACK, not in the IMAGE", x.word(4, 0, 5), 1);
    }

    private static void counts() {
        GlassBox x = pair();
        x.opening(0, 1, 1);
        habit(x, "wait");
        habit(x, "wait");
        habit(x, "wait");
        x.box(0, 0, 0);
        feed(x, 1, 2, 3, 4, 5);
        due("sentences", x.count(0), 2);
        due("openings", x.count(1), 1);
        due("texts", x.count(2), 3);
        due("boxes", x.count(3), 1);
        due("bytes", x.count(4), 5);
        due("5", x.count(5), NONE);
        due("-1", x.count(-1), NONE);
        due("most", x.count(MAX), NONE);
    }

    private static void statuses() {
        GlassBox x = pair();
        due("at first", new GlassBox().status(), 0);
        int[] got = {
            x.word(30, 0, 0), x.status(), x.word(0, 0, 1), x.status(), x.terms(9, 0), x.status(), x.terms(0, 6), x.status(),
            x.order(6), x.status(), x.order(0), x.status(), x.opening(3, 1, 1), x.status(), x.opening(0, 1, 1), x.status(),
            x.who(4), x.status(), x.who(0), x.status(), x.sentence(0, 0, 0), x.status(), sentence(x, 0, 0, 0, 9), x.status(),
            x.weigh(3, 0, 1), x.status(), x.weigh(0, 0, 1), x.status(), x.habit(), x.status(), habit(x, "say"), x.status(),
            x.box(61, 0, 0), x.status(), x.box(0, 0, 0), x.status(), x.tired(60, 0), x.status(), x.tired(0, 0), x.status(),
            x.back(0), x.status(), x.image(0), x.status(), x.image(2), x.status(), x.back(0), x.status(),
            sentence(x, 0, 0, 0, 9), x.status(),
        };
        int[] want = {
            -1, -1, 1, 0, -1, -1, 6, 0,
            -1, -1, 0, 0, -1, -1, 0, 0,
            -1, -1, 0, 0, -6, -6, 2, 0,
            -2, -2, 1, 0, -6, -6, 0, 0,
            -1, -1, 0, 0, -1, -1, 0, 0,
            -2, -2, 0, 0, -1, -1, 0, 0,
            -4, -4,
        };
        for (int i = 0; i < want.length; i++) {
            due("answer or status " + i, got[i], want[i]);
        }
        x.row(99, 99);
        x.fixed(-1, 0);
        x.odds(0, 0, 0, 0, 9);
        x.fits(0, 0, 0);
        x.best();
        x.table(0, 99, 0);
        x.plan(0, 99);
        x.end(-1);
        x.run(9, 9);
        x.move(99);
        x.worth(9);
        x.guessing();
        x.write(30);
        x.chain();
        x.link(9);
        x.relieve(0);
        x.change(99);
        x.glossary(241, 0);
        x.whose(9, 9, 9, 9, 9);
        x.read(0);
        x.parting(9);
        x.count(9);
        x.fault();
        due("other calls leave it", x.status(), -4);
    }
}
