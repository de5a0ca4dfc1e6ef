/** Part I of the document's terms, promises 1 to 9 and 38: each sentence that names an edge, by itself. */
public final class EdgesOfNumbers {
    private static final int NONE = Due.NONE;
    private static final int MIN = Due.MIN;
    private static final int MAX = Due.MAX;

    public static void main(String[] args) {
        nothingAtFirst();
        objectsApart();
        wordNumbers();
        wordRanges();
        wordsApart();
        termRanges();
        termsApart();
        orderRange();
        orderRows();
        openingRanges();
        openingPlaces();
        speakerRange();
        speakersApart();
        sentenceValues();
        sentenceRows();
        sentencePlaces();
        sentenceTwice();
        sentenceRefusals();
        sentenceTape();
        weightRanges();
        weightsApart();
        weighRefusals();
        rowEdges();
        statusAhead();
        statusOfTwelve();
        statusOfOthers();
        Due.end("EdgesOfNumbers");
    }

    private static void nothingAtFirst() {
        Due.says("A new object: No SENTENCES, TEXTS.");
        GlassBox x = new GlassBox();
        for (int what = 0; what <= 4; what++) {
            Due.due("count(" + what + ")", x.count(what), 0);
        }
        Due.due("row(0, NONE)", x.row(0, NONE), NONE);
        Due.due("row(0, 0)", x.row(0, 0), NONE);
        Due.due("fixed(0, 0)", x.fixed(0, 0), NONE);
        Due.due("odds(0, 0, 0, 0, 0)", x.odds(0, 0, 0, 0, 0), NONE);
        Due.due("fits(0, 1, 0)", x.fits(0, 1, 0), NONE);
        Due.due("table(0, 0, 0)", x.table(0, 0, 0), NONE);
        Due.due("plan(0, 0)", x.plan(0, 0), NONE);
        Due.due("fault()", x.fault(), NONE);
        Due.due("run(0, 0)", x.run(0, 0), NONE);
        Due.due("move(0)", x.move(0), NONE);
        Due.due("worth(0)", x.worth(0), NONE);
        Due.due("chain()", x.chain(), NONE);
        Due.due("link(0)", x.link(0), NONE);
        Due.due("change(0)", x.change(0), NONE);
        Due.due("whose(0, 0, 0, 0, 0)", x.whose(0, 0, 0, 0, 0), NONE);
        Due.due("read(0)", x.read(0), NONE);
        Due.due("parting(0)", x.parting(0), NONE);
        Due.due("parting(1)", x.parting(1), NONE);
        Due.due("status()", x.status(), 0);
        Due.due("best()", x.best(), 0);
        Due.due("table(0, 0, 0) behind best", x.table(0, 0, 0), NONE);
        Due.due("plan(0, 0) behind best", x.plan(0, 0), NONE);
        Due.due("guessing()", x.guessing(), 0);
        Due.due("write(0)", x.write(0), 0);
        Due.due("write(29)", x.write(29), 0);
        Due.due("write(NONE)", x.write(NONE), NONE);
        Due.due("glossary(0, 0)", x.glossary(0, 0), 0);
        Due.due("glossary(240, 0)", x.glossary(240, 0), 0);
        Due.due("end(0)", x.end(0), 0);
        Due.due("back(0)", x.back(0), -2);
        Due.due("back(1)", x.back(1), -2);
    }

    private static void objectsApart() {
        Due.says("A new object");
        GlassBox x = new GlassBox();
        x.word(0, 0, 9);
        x.terms(0, 60);
        x.order(5);
        x.who(3);
        x.opening(0, 1, 1);
        Due.sentence(x, 0, 0, 0, 1);
        Due.habit(x, "say  say");
        Due.habit(x, "wait");
        x.run(0, 0);
        x.best();
        x.box(0, 100, 0);
        x.chain();
        x.relieve(120);
        x.tired(0, 7);
        x.image(0);
        x.feed(0, 0, 0, 0, 0);
        x.terms(9, 0);
        GlassBox y = new GlassBox();
        for (int what = 0; what <= 4; what++) {
            Due.due("count(" + what + ") of another", y.count(what), 0);
        }
        Due.due("status of another", y.status(), 0);
        Due.due("fault of another", y.fault(), NONE);
        Due.due("move of another", y.move(0), NONE);
        Due.due("plan of another", y.plan(0, 0), NONE);
        Due.due("link of another", y.link(0), NONE);
        Due.due("change of another", y.change(0), NONE);
        Due.due("image of another", y.back(0), -2);
        Due.due("LOAD of another", y.word(0, 0, 1), 1);
        Due.due("HEAD of another", y.terms(0, 6), 6);
        Due.due("ORDER of another", y.order(0), 0);
        Due.due("WHO of another", y.who(0), 0);
        Due.due("TIRED of another", y.tired(0, 0), 0);
    }

    private static void wordNumbers() {
        Due.says("WORDS 0 .. 29");
        GlassBox x = new GlassBox();
        for (int what = 0; what <= 2; what++) {
            Due.taken(x, "word(0)", x.word(0, what, 7), what == 0 ? 1 : what == 1 ? 5 : 0);
            Due.taken(x, "word(29)", x.word(29, what, 8), what == 0 ? 1 : what == 1 ? 5 : 0);
            for (int bad : new int[] {-1, 30, MIN, MAX}) {
                Due.refused(x, "word(" + bad + ")", x.word(bad, what, 3), -1);
            }
            Due.taken(x, "word(0) as it was", x.word(0, what, 3), 7);
            Due.taken(x, "word(29) as it was", x.word(29, what, 3), 8);
        }
        Due.says("word: LOAD (what 0), LOOK (1), SPARES (2)");
        for (int bad : new int[] {-1, 3, MIN, MAX}) {
            Due.refused(x, "what " + bad, x.word(5, bad, 3), -1);
        }
        Due.refused(x, "no word, no what, no value", x.word(30, 3, 61), -1);
    }

    private static void wordRanges() {
        for (int w : new int[] {0, 1, 28, 29}) {
            int word = w;
            GlassBox x = new GlassBox();
            Due.says("LOAD 0 .. 9 (1 at first)");
            Due.range(x, "LOAD", v -> x.word(word, 0, v), 1, 0, 9);
            Due.says("LOOK 1 .. 60 minutes (5 at first)");
            Due.range(x, "LOOK", v -> x.word(word, 1, v), 5, 1, 60);
            Due.says("SPARES 0 .. 9 (0 at first)");
            Due.range(x, "SPARES", v -> x.word(word, 2, v), 0, 0, 9);
        }
        Due.says("LOAD, LOOK, SPARES at first, of each WORD");
        GlassBox x = new GlassBox();
        for (int w = 0; w < 30; w++) {
            Due.due("LOAD of " + w, x.word(w, 0, 1), 1);
            Due.due("LOOK of " + w, x.word(w, 1, 5), 5);
            Due.due("SPARES of " + w, x.word(w, 2, 0), 0);
        }
    }

    private static void wordsApart() {
        Due.says("word: LOAD, LOOK, SPARES of a WORD: what it was");
        GlassBox x = new GlassBox();
        for (int w = 0; w < 30; w++) {
            x.word(w, 0, w % 10);
            x.word(w, 1, 1 + 2 * w);
            x.word(w, 2, (w + 3) % 10);
        }
        for (int w = 29; w >= 0; w--) {
            Due.due("LOAD of " + w, x.word(w, 0, 0), w % 10);
            Due.due("LOOK of " + w, x.word(w, 1, 1), 1 + 2 * w);
            Due.due("SPARES of " + w, x.word(w, 2, 0), (w + 3) % 10);
        }
    }

    private static void termRanges() {
        GlassBox x = new GlassBox();
        String[] names = {"HEAD", "RELIEF", "FADE", "LAG", "WRONG", "DROP", "MEND", "OPEN", "CHANGE"};
        int[] most = {60, 60, 100, 100, 1000, 1000, 1000, 100, 1000};
        int[] first = {6, 3, 1, 1, 20, 10, 4, 2, 5};
        for (int what = 0; what < 9; what++) {
            int term = what;
            Due.says("TERMS: " + what + " " + names[what] + " 0 .. " + most[what] + " (" + first[what] + " at first)");
            Due.range(x, names[what], v -> x.terms(term, v), first[what], 0, most[what]);
        }
        Due.says("TERMS: 0 HEAD .. 8 CHANGE");
        for (int bad : new int[] {-1, 9, MIN, MAX}) {
            Due.refused(x, "terms(" + bad + ")", x.terms(bad, 1), -1);
        }
        Due.refused(x, "terms(9, -1)", x.terms(9, -1), -1);
    }

    private static void termsApart() {
        Due.says("terms: A TERM: what it was");
        GlassBox x = new GlassBox();
        for (int what = 0; what < 9; what++) {
            x.terms(what, 40 + what);
        }
        for (int what = 8; what >= 0; what--) {
            Due.due("terms(" + what + ")", x.terms(what, 0), 40 + what);
        }
    }

    private static void orderRange() {
        Due.says("ORDER 0 .. 5 of SLOTS (0 at first)");
        GlassBox x = new GlassBox();
        Due.range(x, "order", x::order, 0, 0, 5);
        for (int o = 1; o <= 5; o++) {
            Due.taken(x, "order(" + o + ")", x.order(o), o - 1);
        }
    }

    private static void orderRows() {
        Due.says("ORDER: 0 1 2, 0 2 1, 1 0 2, 1 2 0, 2 0 1, 2 1 0");
        int[][] slots = {{0, 1, 2}, {0, 2, 1}, {1, 0, 2}, {1, 2, 0}, {2, 0, 1}, {2, 1, 0}};
        GlassBox x = new GlassBox();
        Due.sentence(x, 0, 0, 0, 5);
        for (int done = 0; done < 3; done++) {
            Due.habit(x, "drop if done=" + done);
        }
        for (int o = 0; o < 6; o++) {
            x.order(o);
            for (int done = 0; done < 3; done++) {
                for (int slot = 0; slot < 3; slot++) {
                    int want = slots[o][done] == slot ? 6 : 0;
                    Due.due("SLOT " + slot + " is DROPPED as number " + done + " in ORDER " + o, x.whose(done, 0, slot, 0, 0), want);
                }
            }
        }
    }

    private static void openingRanges() {
        Due.says("OPENINGS: of a SLOT, VALUES that it fits as bits (1 .. 255), a length 1 .. 9");
        GlassBox x = new GlassBox();
        for (int bad : new int[] {-1, 3, MIN, MAX}) {
            Due.refused(x, "slot " + bad, x.opening(bad, 1, 1), -1);
        }
        for (int bad : new int[] {0, 256, -1, MIN, MAX}) {
            Due.refused(x, "values " + bad, x.opening(0, bad, 1), -1);
        }
        for (int bad : new int[] {0, 10, -1, MIN, MAX}) {
            Due.refused(x, "length " + bad, x.opening(0, 1, bad), -1);
        }
        Due.due("none of them has a place", x.count(1), 0);
        Due.taken(x, "least", x.opening(0, 1, 1), 0);
        Due.taken(x, "most", x.opening(2, 255, 9), 1);
        Due.taken(x, "between", x.opening(1, 128, 5), 2);
    }

    private static void openingPlaces() {
        Due.says("OPENINGS, 12 at most; opening: its number. -1; -5.");
        GlassBox x = new GlassBox();
        x.image(0);
        for (int i = 0; i < 12; i++) {
            Due.taken(x, "opening " + i, x.opening(i % 3, 255, 9), i);
            Due.due("count", x.count(1), i + 1);
        }
        Due.refused(x, "a 13th", x.opening(0, 255, 1), -5);
        Due.due("count", x.count(1), 12);
        Due.refused(x, "a 13th of no SLOT", x.opening(3, 255, 1), -1);
        Due.refused(x, "a 13th without VALUES", x.opening(0, 0, 1), -1);
        Due.refused(x, "a 13th without a length", x.opening(0, 255, 0), -1);
        Due.refused(x, "a 13th once more", x.opening(0, 255, 1), -5);
        Due.sentence(x, 0, 0, 0, 1);
        Due.due("the 13th is nowhere: 0 is still the first that fits", x.fits(0, 1, 0), 0);
        x.back(0);
        Due.taken(x, "room again behind BACK", x.opening(0, 255, 1), 0);
        Due.says("opening: twice is not refused");
        Due.taken(x, "the same again", x.opening(0, 255, 1), 1);
    }

    private static void speakerRange() {
        Due.says("SPEAKERS 0 .. 3; WHO speaks (0 at first)");
        GlassBox x = new GlassBox();
        Due.range(x, "who", x::who, 0, 0, 3);
        for (int s = 1; s <= 3; s++) {
            Due.taken(x, "who(" + s + ")", x.who(s), s - 1);
        }
    }

    private static void speakersApart() {
        Due.says("of each SPEAKER a WEIGHT");
        GlassBox x = new GlassBox();
        Due.sentence(x, 1, 1, 1, 1);
        for (int s = 0; s < 4; s++) {
            x.weigh(0, s, 10 * s);
        }
        for (int s = 0; s < 4; s++) {
            x.who(s);
            Due.due("LEAST of " + s, x.best(), 20 * s);
        }
        x.who(4);
        Due.due("LEAST of the same, behind a refusal", x.best(), 60);
        x.who(-1);
        Due.due("LEAST of the same, behind a refusal", x.best(), 60);
    }

    private static void sentenceValues() {
        Due.says("of three SLOTS 0 .. 2 a VALUE 0 .. 7 each; sentence: -1 a VALUE");
        GlassBox x = new GlassBox();
        for (int bad : new int[] {-1, 8, MIN, MAX}) {
            Due.refused(x, "first VALUE " + bad, Due.sentence(x, bad, 0, 0, 1), -1);
            Due.refused(x, "second VALUE " + bad, Due.sentence(x, 0, bad, 0, 1), -1);
            Due.refused(x, "third VALUE " + bad, Due.sentence(x, 0, 0, bad, 1), -1);
        }
        Due.due("none of them has a place", x.count(0), 0);
        Due.taken(x, "0 0 0", Due.sentence(x, 0, 0, 0, 1), 0);
        Due.taken(x, "7 7 7", Due.sentence(x, 7, 7, 7, 2), 1);
        Due.taken(x, "0 7 3", Due.sentence(x, 0, 7, 3, 3), 2);
        int[][] values = {{0, 0, 0}, {7, 7, 7}, {0, 7, 3}};
        for (int s = 0; s < 3; s++) {
            for (int slot = 0; slot < 3; slot++) {
                for (int value = 0; value < 8; value++) {
                    int want = values[s][slot] == value ? 1 : 0;
                    Due.due("VALUE of " + s + " in " + slot, x.odds(s, 1, slot, value, 0), want);
                }
            }
        }
    }

    private static void sentenceRows() {
        Due.says("a row of 1 .. 8 WORDS; sentence: -6 no row of 1 .. 8 WORDS");
        GlassBox x = new GlassBox();
        Due.refused(x, "no WORD", x.sentence(0, 0, 0), -6);
        x.feed(0, 0, 0, 0, 0);
        x.end(0);
        Due.refused(x, "no WORD left", x.sentence(0, 0, 0), -6);
        Due.refused(x, "9 WORDS", Due.sentence(x, 0, 0, 0, 1, 2, 3, 4, 5, 6, 7, 8, 9), -6);
        x.feed(0, 0, 0, 0, 0);
        Due.refused(x, "20 WORDS", x.sentence(0, 0, 0), -6);
        for (int i = 0; i < 20; i++) {
            x.feed(0, 0, 0, 0, 0);
        }
        Due.refused(x, "400 WORDS", x.sentence(0, 0, 0), -6);
        for (int bad : new int[] {30, 127, 128, 255}) {
            Due.refused(x, "WORD " + bad + " alone", Due.sentence(x, 0, 0, 0, bad), -6);
            Due.refused(x, "WORD " + bad + " first", Due.sentence(x, 0, 0, 0, bad, 1), -6);
            Due.refused(x, "WORD " + bad + " as the 8th", Due.sentence(x, 0, 0, 0, 1, 2, 3, 4, 5, 6, 7, bad), -6);
        }
        Due.due("none of them has a place", x.count(0), 0);
        Due.taken(x, "1 WORD", Due.sentence(x, 0, 0, 0, 29), 0);
        Due.taken(x, "8 WORDS", Due.sentence(x, 0, 0, 0, 29, 0, 29, 0, 29, 0, 29, 0), 1);
        x.feed(0x1CFFFFFF, -1, -1, -1, -1);
        x.end(1);
        Due.taken(x, "what was cut off does not count", x.sentence(0, 0, 0), 2);
        Due.due("1 WORD", x.row(0, NONE), 1);
        Due.due("8 WORDS", x.row(1, NONE), 8);
        Due.due("1 WORD", x.row(2, NONE), 1);
        Due.due("29", x.row(0, 0), 29);
        Due.due("28", x.row(2, 0), 28);
        for (int i = 0; i < 8; i++) {
            Due.due("WORD " + i, x.row(1, i), i % 2 == 0 ? 29 : 0);
        }
    }

    /** SENTENCES 10 .. 25 of one WORD each. */
    private static GlassBox full() {
        GlassBox x = new GlassBox();
        for (int i = 0; i < 16; i++) {
            Due.taken(x, "sentence " + i, Due.sentence(x, i % 8, 0, 0, 10 + i), i);
            Due.due("count", x.count(0), i + 1);
        }
        return x;
    }

    private static void sentencePlaces() {
        Due.says("SENTENCES 0 .. 15 (16 at most)");
        GlassBox x = full();
        Due.refused(x, "a 17th", Due.sentence(x, 0, 0, 0, 1), -5);
        Due.due("count", x.count(0), 16);
        Due.due("the 16th", x.row(15, 0), 25);
        Due.due("no 17th", x.row(16, 0), NONE);
        Due.refused(x, "a 17th again", Due.sentence(x, 0, 0, 0, 1), -5);
        Due.due("the 16th can come", x.fixed(15, 0), 0);
        Due.due("no 17th can", x.fixed(16, 0), NONE);
    }

    private static void sentenceTwice() {
        Due.says("No two have the same row; sentence: -4 the row is there");
        GlassBox x = new GlassBox();
        x.image(0);
        Due.taken(x, "1 2 3", Due.sentence(x, 0, 0, 0, 1, 2, 3), 0);
        Due.refused(x, "1 2 3", Due.sentence(x, 0, 0, 0, 1, 2, 3), -4);
        Due.refused(x, "1 2 3 with other VALUES", Due.sentence(x, 7, 6, 5, 1, 2, 3), -4);
        Due.due("VALUES are as they were", x.odds(0, 1, 0, 0, 0), 1);
        Due.taken(x, "a shorter one", Due.sentence(x, 0, 0, 0, 1, 2), 1);
        Due.taken(x, "a longer one", Due.sentence(x, 0, 0, 0, 1, 2, 3, 3), 2);
        Due.taken(x, "the first WORD another", Due.sentence(x, 0, 0, 0, 4, 2, 3), 3);
        Due.taken(x, "the last WORD another", Due.sentence(x, 0, 0, 0, 1, 2, 4), 4);
        Due.taken(x, "other way round", Due.sentence(x, 0, 0, 0, 3, 2, 1), 5);
        Due.refused(x, "the latest one", Due.sentence(x, 0, 0, 0, 3, 2, 1), -4);
        Due.refused(x, "the shorter one", Due.sentence(x, 0, 0, 0, 1, 2), -4);
        Due.due("count", x.count(0), 6);
        x.weigh(0, 0, 0);
        Due.refused(x, "nobody says it, but it is there", Due.sentence(x, 0, 0, 0, 1, 2, 3), -4);
        x.back(0);
        Due.taken(x, "not there behind BACK", Due.sentence(x, 0, 0, 0, 1, 2, 3), 0);
        Due.taken(x, "8 WORDS", Due.sentence(x, 0, 0, 0, 1, 2, 3, 4, 5, 6, 7, 8), 1);
        Due.taken(x, "8 WORDS, the last another", Due.sentence(x, 0, 0, 0, 1, 2, 3, 4, 5, 6, 7, 9), 2);
        Due.refused(x, "8 WORDS", Due.sentence(x, 0, 0, 0, 1, 2, 3, 4, 5, 6, 7, 9), -4);
    }

    private static void sentenceRefusals() {
        Due.says("The first of these in that order; (-6 is asked ahead of -4, -5.)");
        GlassBox x = full();
        Due.refused(x, "a VALUE, no row", x.sentence(8, 0, 0), -1);
        Due.refused(x, "a VALUE, a ROW that can't be", Due.sentence(x, 0, -1, 0, 30), -1);
        Due.refused(x, "a VALUE, twice", Due.sentence(x, 0, 0, 8, 10), -1);
        Due.refused(x, "a VALUE, no room", Due.sentence(x, 0, 0, 8, 1), -1);
        Due.refused(x, "no row, no room", x.sentence(0, 0, 0), -6);
        Due.refused(x, "a ROW that can't be, no room", Due.sentence(x, 0, 0, 0, 1, 30), -6);
        Due.refused(x, "9 WORDS, no room", Due.sentence(x, 0, 0, 0, 1, 2, 3, 4, 5, 6, 7, 8, 9), -6);
        Due.refused(x, "twice, no room", Due.sentence(x, 0, 0, 0, 10), -4);
        Due.refused(x, "the last one twice, no room", Due.sentence(x, 0, 0, 0, 25), -4);
        Due.refused(x, "no room", Due.sentence(x, 0, 0, 0, 1), -5);
        Due.due("count", x.count(0), 16);
        GlassBox y = new GlassBox();
        Due.sentence(y, 0, 0, 0, 1, 2, 3, 4, 5, 6, 7, 8);
        Due.refused(y, "9 WORDS of which 8 are there", Due.sentence(y, 0, 0, 0, 1, 2, 3, 4, 5, 6, 7, 8, 9), -6);
        Due.refused(y, "a VALUE, the row is there", Due.sentence(y, 8, 0, 0, 1, 2, 3, 4, 5, 6, 7, 8), -1);
    }

    private static void sentenceTape() {
        Due.says("sentence: the TAPE is empty then");
        GlassBox x = new GlassBox();
        Due.sentence(x, 0, 0, 0, 1, 2);
        Due.due("taken", x.count(4), 0);
        Due.due("nothing to take once more", x.sentence(0, 0, 0), -6);
        Due.sentence(x, 0, 0, 0, 1, 2);
        Due.due("-4", x.count(4), 0);
        Due.sentence(x, 0, 0, 0, 30);
        Due.due("-6", x.count(4), 0);
        Due.sentence(x, 8, 0, 0, 5);
        Due.due("-1", x.count(4), 0);
        Due.due("20 bytes come onto an empty TAPE", x.feed(0, 0, 0, 0, 0), 20);
        GlassBox y = full();
        Due.sentence(y, 0, 0, 0, 5);
        Due.due("-5", y.count(4), 0);
    }

    private static void weightRanges() {
        Due.says("of each SPEAKER a WEIGHT 0 .. 100 (1 at first)");
        GlassBox x = full();
        for (int s : new int[] {0, 7, 15}) {
            int sentence = s;
            for (int who = 0; who < 4; who++) {
                int speaker = who;
                Due.range(x, "WEIGHT", v -> x.weigh(sentence, speaker, v), 1, 0, 100);
            }
        }
    }

    private static void weightsApart() {
        Due.says("weigh: WEIGHT of a SENTENCE of a SPEAKER: what it was");
        GlassBox x = full();
        for (int s = 0; s < 16; s++) {
            for (int who = 0; who < 4; who++) {
                Due.due("at first", x.weigh(s, who, 4 * s + who + 5), 1);
            }
        }
        for (int s = 15; s >= 0; s--) {
            for (int who = 0; who < 4; who++) {
                Due.due("WEIGHT of " + s + " of " + who, x.weigh(s, who, 0), 4 * s + who + 5);
            }
        }
        Due.says("a WEIGHT (1 at first), in a place that was another's ahead of BACK");
        GlassBox y = new GlassBox();
        y.image(0);
        Due.sentence(y, 0, 0, 0, 1);
        y.weigh(0, 2, 77);
        y.back(0);
        Due.sentence(y, 0, 0, 0, 2);
        Due.due("1 again", y.weigh(0, 2, 5), 1);
    }

    private static void weighRefusals() {
        Due.says("weigh: -1; -2.");
        GlassBox x = new GlassBox();
        Due.refused(x, "no SENTENCES yet", x.weigh(0, 0, 1), -2);
        Due.refused(x, "no SENTENCES yet", x.weigh(15, 3, 100), -2);
        Due.sentence(x, 0, 0, 0, 1);
        Due.sentence(x, 0, 0, 0, 2);
        Due.taken(x, "the last one", x.weigh(1, 0, 5), 1);
        Due.refused(x, "behind the last one", x.weigh(2, 0, 5), -2);
        for (int bad : new int[] {-1, 4, MIN, MAX}) {
            Due.refused(x, "SPEAKER " + bad, x.weigh(0, bad, 5), -1);
            Due.refused(x, "no such SENTENCE, SPEAKER " + bad, x.weigh(2, bad, 5), -1);
        }
        for (int bad : new int[] {-1, 101, MIN, MAX}) {
            Due.refused(x, "WEIGHT " + bad, x.weigh(0, 0, bad), -1);
            Due.refused(x, "no such SENTENCE, WEIGHT " + bad, x.weigh(2, 0, bad), -1);
        }
        Due.says("SENTENCES 0 .. 15: another is a number that can't be");
        for (int bad : new int[] {-1, 16, MIN, MAX}) {
            Due.refused(x, "SENTENCE " + bad, x.weigh(bad, 0, 5), -1);
        }
        Due.due("unchanged", x.weigh(0, 0, 1), 1);
    }

    private static void rowEdges() {
        Due.says("row: The i-th WORD of a SENTENCE (i NONE: how many). NONE.");
        GlassBox x = new GlassBox();
        Due.sentence(x, 0, 0, 0, 7);
        Due.sentence(x, 0, 0, 0, 1, 2, 3, 4, 5, 6, 7, 8);
        Due.due("how many", x.row(0, NONE), 1);
        Due.due("the only one", x.row(0, 0), 7);
        Due.due("behind it", x.row(0, 1), NONE);
        Due.due("how many", x.row(1, NONE), 8);
        Due.due("the first", x.row(1, 0), 1);
        Due.due("the last", x.row(1, 7), 8);
        for (int bad : new int[] {8, -2, MIN, MAX}) {
            Due.due("i " + bad, x.row(1, bad), NONE);
        }
        for (int bad : new int[] {-1, 2, 15, 16, MIN, MAX}) {
            Due.due("how many in SENTENCE " + bad, x.row(bad, NONE), NONE);
            Due.due("the first WORD of SENTENCE " + bad, x.row(bad, 0), NONE);
        }
        x.weigh(0, 0, 0);
        Due.due("a WEIGHT does not matter", x.row(0, 0), 7);
        Due.due("status", x.status(), 0);
    }

    private static void statusAhead() {
        Due.says("status: 0 if it was not, or ahead of any");
        GlassBox x = new GlassBox();
        Due.due("ahead of any", x.status(), 0);
        x.row(5, 5);
        x.end(7);
        x.relieve(0);
        Due.due("ahead of any of the twelve", x.status(), 0);
    }

    /** Each of the twelve: refused, status; taken, status. */
    private static void statusOfTwelve() {
        Due.says("status: What the latest call of word, terms, .. back was REFUSED by");
        GlassBox x = new GlassBox();
        Due.refused(x, "word", x.word(30, 0, 0), -1);
        Due.taken(x, "word", x.word(0, 0, 1), 1);
        Due.refused(x, "terms", x.terms(9, 0), -1);
        Due.taken(x, "terms", x.terms(0, 6), 6);
        Due.refused(x, "order", x.order(6), -1);
        Due.taken(x, "order", x.order(0), 0);
        Due.refused(x, "opening", x.opening(0, 0, 1), -1);
        Due.taken(x, "opening", x.opening(0, 1, 1), 0);
        Due.refused(x, "who", x.who(4), -1);
        Due.taken(x, "who", x.who(0), 0);
        Due.refused(x, "sentence", x.sentence(0, 0, 0), -6);
        Due.taken(x, "sentence", Due.sentence(x, 0, 0, 0, 1), 0);
        Due.refused(x, "weigh", x.weigh(1, 0, 1), -2);
        Due.taken(x, "weigh", x.weigh(0, 0, 1), 1);
        Due.refused(x, "habit", x.habit(), -6);
        Due.taken(x, "habit", Due.habit(x, "say"), 0);
        Due.refused(x, "box", x.box(0, 101, 0), -1);
        Due.taken(x, "box", x.box(0, 100, 0), 0);
        Due.refused(x, "tired", x.tired(60, 0), -1);
        Due.taken(x, "tired", x.tired(59, 0), 0);
        Due.refused(x, "back", x.back(1), -2);
        Due.taken(x, "image", x.image(1), 0);
        Due.refused(x, "image", x.image(2), -1);
        Due.taken(x, "back", x.back(1), 0);
        Due.refused(x, "sentence", Due.sentence(x, 0, 0, 0, 1), -4);
        Due.due("asked once more", x.status(), -4);
        Due.says("status is no part of what an IMAGE keeps: back itself is the latest call");
        x.image(0);
        x.who(4);
        Due.taken(x, "back", x.back(0), 0);
        x.who(4);
        x.feed(0, 0, 0, 0, 0);
        Due.due("refused still", x.status(), -1);
    }

    private static void others(GlassBox x) {
        x.row(99, 99);
        x.fixed(-1, 0);
        x.odds(0, 0, 0, 0, 9);
        x.fits(0, 0, 0);
        x.best();
        x.table(0, 99, 0);
        x.plan(0, 99);
        x.feed(0, 0, 0, 0, 0);
        x.end(-1);
        x.end(0);
        x.fault();
        x.run(9, 9);
        x.run(0, 0);
        x.move(99);
        x.worth(9);
        x.worth(0);
        x.guessing();
        x.write(30);
        x.write(0);
        x.chain();
        x.link(9);
        x.relieve(0);
        x.relieve(1);
        x.change(99);
        x.glossary(241, 0);
        x.glossary(1, 0);
        x.whose(9, 9, 9, 9, 9);
        x.whose(0, 0, 0, 0, 0);
        x.read(0);
        x.read(9);
        x.parting(9);
        x.parting(0);
        x.count(9);
        x.count(0);
        x.status();
    }

    private static void statusOfOthers() {
        Due.says("status: the latest call of the twelve, no other");
        GlassBox x = new GlassBox();
        Due.sentence(x, 0, 0, 0, 1);
        Due.habit(x, "say");
        others(x);
        Due.due("0 stays", x.status(), 0);
        x.weigh(5, 0, 0);
        others(x);
        Due.due("-2 stays", x.status(), -2);
    }
}
