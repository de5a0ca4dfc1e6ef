/** Part III of the document's terms, promises 10 to 15 and 20 to 24: each sentence that names an edge, by itself. */
public final class EdgesOfMoves {
    private static final int NONE = Due.NONE;
    private static final int MIN = Due.MIN;
    private static final int MAX = Due.MAX;
    private static final int[][] ORDERS = {{0, 1, 2}, {0, 2, 1}, {1, 0, 2}, {1, 2, 0}, {2, 0, 1}, {2, 1, 0}};

    public static void main(String[] args) {
        fixedFirst();
        fixedNone();
        oddsParts();
        oddsBehind();
        oddsNone();
        fitsWhich();
        fitsBehind();
        fitsNone();
        overBehindTheLastWord();
        canCome();
        mayWait();
        maySay();
        mayOpen();
        openCosts();
        mayDrop();
        mayEnd();
        mayGuess();
        mayMend();
        heldAtLeast();
        fadeAboveHead();
        lagIfOver();
        endCosts();
        largestLoss();
        saidNext();
        saidMended();
        saidOutside();
        tableAlike();
        tableEdges();
        tableOfThen();
        planEdges();
        leastHangsOnWords();
        leastNarrowing();
        leastMendedEarly();
        leastByWeight();
        habitClauses();
        habitGuess();
        habitMend();
        habitWithout();
        askedCounts();
        askedChances();
        askedLoads();
        askedWrong();
        runEdges();
        moveEdges();
        worthEdges();
        guessingEdges();
        writeEdges();
        writeMost();
        Due.end("EdgesOfMoves");
    }

    /** Two SENTENCES, 0 1 and 0 2, that part in SLOT 0 (VALUES 1 and 4). */
    private static GlassBox pair() {
        GlassBox x = new GlassBox();
        Due.sentence(x, 1, 2, 3, 0, 1);
        Due.sentence(x, 4, 2, 3, 0, 2);
        return x;
    }

    /** One SENTENCE of so many WORDS, VALUES 5 6 7. */
    private static GlassBox one(int words) {
        GlassBox x = new GlassBox();
        int[] row = new int[words];
        for (int i = 0; i < words; i++) {
            row[i] = 10 + i;
        }
        Due.sentence(x, 5, 6, 7, row);
        return x;
    }

    private static void noTerms(GlassBox x) {
        for (int what = 0; what < 9; what++) {
            x.terms(what, 0);
        }
    }

    // ---- 10 fixed

    private static void fixedFirst() {
        Due.says("fixed: The SECOND in which a SLOT is FIXED first, if that SENTENCE comes");
        GlassBox x = new GlassBox();
        Due.sentence(x, 1, 1, 1, 1, 2, 3, 4, 5, 6, 7, 8);
        Due.due("alone", x.fixed(0, 0), 0);
        Due.sentence(x, 2, 1, 1, 1, 2, 3, 4, 5, 6, 7, 9);
        Due.due("by the 8th WORD", x.fixed(0, 0), 7);
        Due.due("by the 8th WORD", x.fixed(1, 0), 7);
        Due.due("alike in both", x.fixed(0, 1), 0);
        Due.sentence(x, 3, 3, 1, 1);
        Due.due("only when it is OVER", x.fixed(2, 0), 1);
        Due.due("by the second WORD", x.fixed(0, 1), 1);
        Due.due("alike in all", x.fixed(2, 2), 0);
        Due.sentence(x, 1, 1, 4, 9);
        Due.due("another first WORD", x.fixed(3, 0), 0);
        Due.due("alike in all that begin so", x.fixed(0, 2), 0);
        Due.sentence(x, 4, 1, 1, 1, 2, 3, 4, 5, 6, 7);
        Due.due("begins another: when it is OVER", x.fixed(4, 0), 7);
        Due.due("by the 8th WORD still", x.fixed(0, 0), 7);
        Due.says("CAN COME: all SENTENCES with a WEIGHT of WHO speaks above 0");
        x.weigh(1, 0, 0);
        x.weigh(4, 0, 0);
        Due.due("by the second WORD", x.fixed(0, 0), 1);
        x.weigh(1, 0, 1);
        Due.due("a WEIGHT of 1 is above 0", x.fixed(0, 0), 7);
        x.who(3);
        x.weigh(4, 3, 0);
        x.weigh(1, 3, 0);
        x.weigh(2, 3, 0);
        Due.due("of WHO speaks", x.fixed(0, 0), 0);
        x.who(0);
        Due.due("of WHO speaks", x.fixed(0, 0), 7);
    }

    private static void fixedNone() {
        Due.says("fixed: NONE (no WEIGHT of who speaks, too)");
        GlassBox x = pair();
        for (int bad : new int[] {-1, 3, MIN, MAX}) {
            Due.due("SLOT " + bad, x.fixed(0, bad), NONE);
        }
        for (int bad : new int[] {-1, 2, 15, 16, MIN, MAX}) {
            Due.due("SENTENCE " + bad, x.fixed(bad, 0), NONE);
        }
        Due.due("SLOT 2", x.fixed(1, 2), 0);
        x.weigh(0, 0, 0);
        Due.due("no WEIGHT", x.fixed(0, 0), NONE);
        Due.due("no WEIGHT, alike all the same", x.fixed(0, 1), NONE);
        Due.due("the other", x.fixed(1, 0), 0);
        x.who(1);
        Due.due("another has one", x.fixed(0, 0), 1);
    }

    // ---- 11 odds

    private static void oddsParts() {
        Due.says("odds: upper (part 0), lower number (1), in lowest terms (0 is 0 by 1)");
        GlassBox x = pair();
        x.weigh(0, 0, 60);
        x.weigh(1, 0, 40);
        Due.due("60 of 100", x.odds(0, 1, 0, 1, 0), 3);
        Due.due("60 of 100", x.odds(0, 1, 0, 1, 1), 5);
        Due.due("40 of 100", x.odds(0, 1, 0, 4, 0), 2);
        Due.due("40 of 100", x.odds(0, 1, 0, 4, 1), 5);
        Due.due("none of 100", x.odds(0, 1, 0, 7, 0), 0);
        Due.due("none of 100", x.odds(0, 1, 0, 7, 1), 1);
        Due.due("none of 100", x.odds(0, 1, 0, 0, 1), 1);
        Due.due("all of 100", x.odds(0, 1, 1, 2, 0), 1);
        Due.due("all of 100", x.odds(0, 1, 1, 2, 1), 1);
        x.weigh(0, 0, 97);
        x.weigh(1, 0, 89);
        Due.due("97 of 186", x.odds(0, 1, 0, 1, 0), 97);
        Due.due("97 of 186", x.odds(0, 1, 0, 1, 1), 186);
        GlassBox y = new GlassBox();
        for (int s = 0; s < 16; s++) {
            Due.sentence(y, s < 15 ? 0 : 7, 0, 0, s);
            y.weigh(s, 0, 100);
        }
        Due.due("1500 of 1600", y.odds(0, 0, 0, 0, 0), 15);
        Due.due("1500 of 1600", y.odds(0, 0, 0, 0, 1), 16);
        y.weigh(0, 0, 99);
        Due.due("1499 of 1599", y.odds(0, 0, 0, 0, 0), 1499);
        Due.due("1499 of 1599", y.odds(0, 0, 0, 0, 1), 1599);
        y.weigh(0, 0, 100);
        y.weigh(15, 0, 1);
        Due.due("1 of 1501", y.odds(0, 0, 0, 7, 0), 1);
        Due.due("1 of 1501", y.odds(0, 0, 0, 7, 1), 1501);
    }

    private static void oddsBehind() {
        Due.says("odds: Behind n WORDS (0 .. all) of a SENTENCE, not OVER");
        GlassBox x = pair();
        Due.sentence(x, 7, 0, 0, 9);
        Due.sentence(x, 6, 0, 0, 0, 1, 5);
        Due.due("behind 0: one of four", x.odds(0, 0, 0, 1, 1), 4);
        Due.due("behind 0 of another: the same", x.odds(2, 0, 0, 1, 1), 4);
        Due.due("behind 1: one of three", x.odds(0, 1, 0, 1, 1), 3);
        Due.due("behind all, not OVER: one of two", x.odds(0, 2, 0, 1, 1), 2);
        Due.due("behind all, not OVER: the longer one", x.odds(0, 2, 0, 6, 0), 1);
        Due.due("behind all of the longer one", x.odds(3, 3, 0, 6, 1), 1);
        Due.due("behind all of the longer one", x.odds(3, 3, 0, 1, 0), 0);
        Due.due("of a SENTENCE of one WORD", x.odds(2, 1, 0, 7, 0), 1);
        x.weigh(0, 0, 0);
        Due.due("without a WEIGHT, but others can come", x.odds(0, 2, 0, 6, 0), 1);
        Due.due("its own VALUE can't", x.odds(0, 2, 0, 1, 0), 0);
    }

    private static void oddsNone() {
        Due.says("odds: NONE (nothing CAN COME, too)");
        GlassBox x = pair();
        for (int bad : new int[] {-1, 3, MIN, MAX}) {
            Due.due("n " + bad, x.odds(0, bad, 0, 1, 0), NONE);
            Due.due("SLOT " + bad, x.odds(0, 0, bad, 1, 0), NONE);
        }
        for (int bad : new int[] {-1, 8, MIN, MAX}) {
            Due.due("VALUE " + bad, x.odds(0, 0, 0, bad, 0), NONE);
            Due.due("VALUE " + bad, x.odds(0, 0, 0, bad, 1), NONE);
        }
        for (int bad : new int[] {-1, 2, MIN, MAX}) {
            Due.due("part " + bad, x.odds(0, 0, 0, 1, bad), NONE);
        }
        for (int bad : new int[] {-1, 2, 15, 16, MIN, MAX}) {
            Due.due("SENTENCE " + bad, x.odds(bad, 0, 0, 1, 0), NONE);
        }
        x.weigh(0, 0, 0);
        Due.due("nothing can come behind 2", x.odds(0, 2, 0, 1, 0), NONE);
        Due.due("nothing can come behind 2", x.odds(0, 2, 0, 7, 1), NONE);
        Due.due("something behind 1", x.odds(0, 1, 0, 1, 1), 1);
        x.weigh(1, 0, 0);
        Due.due("nothing can come behind 0", x.odds(1, 0, 0, 4, 0), NONE);
        Due.due("nothing can come behind 0", x.odds(1, 0, 0, 4, 1), NONE);
        x.who(1);
        Due.due("another can say it", x.odds(0, 2, 0, 1, 0), 1);
    }

    // ---- 12 fits

    private static void fitsWhich() {
        Due.says("an OPENING of it that fits all VALUES it can have by what CAN COME: the shortest, of alike ones the first");
        GlassBox x = pair();
        Due.due("no OPENING", x.fits(0, 1, 0), NONE);
        x.opening(1, 255, 1);
        Due.due("another SLOT's", x.fits(0, 1, 0), NONE);
        x.opening(0, 255 - 2, 1);
        x.opening(0, 255 - 16, 1);
        Due.due("one VALUE is missing", x.fits(0, 1, 0), NONE);
        x.opening(0, 255, 9);
        Due.due("all are there", x.fits(0, 1, 0), 3);
        x.opening(0, 2 + 16, 8);
        Due.due("just these, shorter", x.fits(0, 1, 0), 4);
        x.opening(0, 2 + 16 + 1, 8);
        Due.due("of alike ones the first", x.fits(0, 1, 0), 4);
        x.opening(0, 2 + 16, 1);
        Due.due("the shortest", x.fits(0, 1, 0), 6);
        Due.due("by SLOT", x.fits(0, 1, 1), 0);
        Due.due("none of SLOT 2", x.fits(0, 1, 2), NONE);
        x.opening(2, 8, 9);
        Due.due("SLOT 2, its VALUE alone", x.fits(0, 1, 2), 7);
        GlassBox y = new GlassBox();
        Due.sentence(y, 0, 0, 0, 1);
        Due.sentence(y, 7, 7, 7, 1, 2);
        y.opening(0, 127, 1);
        y.opening(0, 254, 1);
        Due.due("the first and the last VALUE", y.fits(0, 1, 0), NONE);
        y.opening(0, 129, 1);
        Due.due("the first and the last VALUE", y.fits(0, 1, 0), 2);
    }

    private static void fitsBehind() {
        Due.says("fits: behind n WORDS (1 .. all) of a SENTENCE, not OVER (also if it is FIXED)");
        GlassBox x = pair();
        Due.sentence(x, 7, 2, 3, 0, 1, 5);
        x.opening(0, 2 + 16 + 128, 9);
        x.opening(0, 2 + 128, 8);
        x.opening(0, 2, 1);
        x.opening(0, 16, 7);
        Due.due("behind 1", x.fits(0, 1, 0), 0);
        Due.due("behind all, not OVER", x.fits(0, 2, 0), 1);
        Due.due("also if it is FIXED", x.fits(1, 2, 0), 3);
        Due.due("behind all of the longer one: VALUE 7", x.fits(2, 3, 0), 1);
        x.weigh(2, 0, 0);
        Due.due("also if it is FIXED", x.fits(0, 2, 0), 2);
        x.weigh(0, 0, 0);
        x.weigh(2, 0, 1);
        Due.due("without a WEIGHT, but another can come", x.fits(0, 2, 0), 1);
        x.weigh(2, 0, 0);
        Due.due("nothing CAN COME: no VALUE is missing in the shortest", x.fits(0, 2, 0), 2);
        Due.due("nothing CAN COME, no OPENING of the SLOT", x.fits(0, 2, 1), NONE);
    }

    private static void fitsNone() {
        Due.says("fits: NONE");
        GlassBox x = pair();
        x.opening(0, 255, 1);
        Due.due("n 1", x.fits(0, 1, 0), 0);
        Due.due("n 2", x.fits(0, 2, 0), 0);
        for (int bad : new int[] {0, 3, -1, MIN, MAX}) {
            Due.due("n " + bad, x.fits(0, bad, 0), NONE);
        }
        for (int bad : new int[] {-1, 3, MIN, MAX}) {
            Due.due("SLOT " + bad, x.fits(0, 1, bad), NONE);
        }
        for (int bad : new int[] {-1, 2, 15, 16, MIN, MAX}) {
            Due.due("SENTENCE " + bad, x.fits(bad, 1, 0), NONE);
        }
    }

    // ---- what CAN COME, SECONDS

    private static void overBehindTheLastWord() {
        Due.says("In SECOND t, from 0 on, the SENTENCE's WORD t comes; if it has none, it is OVER");
        for (int words = 1; words <= 8; words++) {
            GlassBox x = one(words);
            Due.habit(x, "drop if over;wait");
            Due.same("OVER in SECOND " + words, Due.moves(x, 0, 0), Due.times(words, "0 ") + "3 3 3 4");
            Due.habit(x, "drop if second=" + words + ";wait");
            Due.same("one DROPPED in SECOND " + words, Due.moves(x, 1, 0), Due.times(words, "0 ") + "3 1 1 4");
            noTerms(x);
            x.best();
            Due.due("not OVER: WAIT", x.table(0, words - 1, 0), 0);
            Due.due("OVER: SAY", x.table(0, words, 0), 1);
            Due.due("no SECOND behind it", x.table(0, words + 1, 0), NONE);
        }
    }

    private static void canCome() {
        Due.says("CAN COME: that begin with the WORDS that came, and, if it is OVER, have no more");
        GlassBox x = new GlassBox();
        Due.sentence(x, 1, 0, 0, 5);
        Due.sentence(x, 2, 0, 0, 5, 5);
        Due.sentence(x, 3, 0, 0, 5, 5, 5);
        Due.habit(x, "drop if left=3;wait if left=2");
        Due.same("three, then itself", Due.moves(x, 0, 0), "3 1 1 4");
        Due.habit(x, "wait if left=3;drop if left=2");
        Due.same("three, OVER", Due.moves(x, 1, 0), "0 1 1 1 4");
        Due.same("three, two, OVER", Due.moves(x, 1, 1), "0 3 1 1 4");
        Due.same("three, two, one", Due.moves(x, 1, 2), "0 3 1 1 4");
        x.weigh(2, 0, 0);
        Due.same("two, one", Due.moves(x, 1, 1), "3 1 1 4");
        x.weigh(0, 0, 0);
        Due.same("one from the beginning on", Due.moves(x, 1, 1), "1 1 1 4");
    }

    // ---- the MOVES

    private static void mayWait() {
        Due.says("0 WAIT (if it is not OVER)");
        GlassBox x = one(2);
        Due.habit(x, "wait");
        Due.same("not when it is OVER", Due.moves(x, 0, 0), "0 0 1 1 1 4");
        Due.habit(x, "wait if over;drop if over");
        Due.same("not when it is OVER", Due.moves(x, 1, 0), "1 1 3 4");
        Due.says("of alike ones the lowest number: WAIT where it can be, else SAY, else END");
        noTerms(x);
        for (int from = 0; from <= 1110; from += 200) {
            x.best();
            for (int said = from; said < from + 200 && said <= 1110; said++) {
                Due.due("not OVER, SAID " + said, x.table(0, 1, said), 0);
                Due.due("OVER, SAID " + said, x.table(0, 2, said), said < 111 ? 1 : 4);
            }
            x = one(2);
            noTerms(x);
        }
    }

    private static void maySay() {
        Due.says("1 SAY: NEXT is FIXED, it is said");
        GlassBox x = pair();
        Due.habit(x, "say");
        Due.same("not ahead of that", Due.moves(x, 0, 0), "0 1 1 1 4");
        Due.due("its VALUE", x.whose(0, 1, 0, 4, 4), 0);
        x.order(2);
        Due.same("NEXT is FIXED, the one behind it is not", Due.moves(x, 0, 0), "1 1 1 4");
        x.order(5);
        Due.same("both", Due.moves(x, 0, 0), "1 1 1 4");
        x.terms(3, 100);
        x.terms(4, 1000);
        x.terms(5, 1000);
        x.terms(6, 1000);
        x.order(0);
        x.best();
        Due.due("by the TABLE neither", x.table(0, 0, 0), 0);
        Due.due("by the TABLE when it is FIXED", x.table(0, 1, 0), 1);
        Due.due("SLOT 1 is FIXED at once", x.table(0, 0, 9), 1);
    }

    private static void mayOpen() {
        Due.says("2 OPEN: NEXT is not FIXED, and there is an OPENING of it that fits all VALUES it can have");
        GlassBox x = pair();
        Due.habit(x, "open");
        Due.same("no OPENING", Due.moves(x, 0, 0), "0 1 1 1 4");
        x.opening(1, 255, 1);
        x.opening(2, 255, 1);
        x.opening(0, 2, 1);
        x.opening(0, 16, 1);
        Due.same("none that fits all", Due.moves(x, 0, 0), "0 1 1 1 4");
        x.opening(0, 18, 9);
        Due.same("one that fits all", Due.moves(x, 0, 0), "2 1 1 4");
        x.order(3);
        Due.same("not if NEXT is FIXED", Due.moves(x, 0, 0), "1 1 1 4");
        x.order(0);
        x.terms(7, 0);
        x.best();
        Due.due("by the TABLE", x.table(0, 0, 0), 2);
        Due.due("FIXED: SAY", x.table(0, 1, 0), 1);
        x.weigh(1, 0, 0);
        Due.same("FIXED from the beginning on", Due.moves(x, 0, 0), "1 1 1 4");
    }

    private static void openCosts() {
        Due.says("the shortest; it costs OPEN times its length");
        GlassBox x = pair();
        x.terms(3, 0);
        Due.habit(x, "open");
        x.opening(0, 255, 9);
        Due.due("2 times 9", x.run(0, 0), 18);
        x.terms(7, 0);
        Due.due("0 times 9", x.run(0, 0), 0);
        x.terms(7, 100);
        Due.due("100 times 9", x.run(0, 0), 900);
        x.opening(0, 255, 8);
        Due.due("100 times 8", x.run(0, 0), 800);
        x.opening(0, 2, 1);
        Due.due("a shorter one that does not fit", x.run(0, 0), 800);
        x.opening(0, 18, 1);
        Due.due("100 times 1", x.run(0, 0), 100);
        x.opening(0, 18, 2);
        Due.due("a longer one behind it", x.run(0, 0), 100);
        x.opening(1, 255, 1);
        Due.due("both say it", x.worth(0), 200);
        Due.says("of three: it is OPEN, which costs no more at the END");
        GlassBox y = new GlassBox();
        Due.sentence(y, 0, 0, 0, 1, 1, 1, 1);
        Due.sentence(y, 1, 1, 1, 1, 1, 1, 2);
        for (int slot = 0; slot < 3; slot++) {
            y.opening(slot, 3, 1 + slot);
        }
        Due.habit(y, "open");
        Due.due("2 times 1 and 2 and 3", y.run(0, 0), 12);
        Due.same("moves", Due.moves(y, 0, 0), "2 2 2 0 4");
        for (int slot = 0; slot < 3; slot++) {
            Due.due("no VALUE", y.whose(0, 0, slot, 0, 0), 6);
        }
    }

    private static void mayDrop() {
        Due.says("3 DROP: NEXT");
        GlassBox x = one(8);
        Due.habit(x, "drop");
        Due.same("not if there is no NEXT", Due.moves(x, 0, 0), "3 3 3 0 0 0 0 0 4");
        Due.due("three DROPPED", x.run(0, 0), 30);
        x.terms(5, 1000);
        Due.due("three DROPPED", x.run(0, 0), 3000);
        x.terms(5, 0);
        Due.due("three DROPPED", x.run(0, 0), 0);
        GlassBox y = pair();
        Due.habit(y, "drop if not known");
        Due.same("what is not FIXED", Due.moves(y, 0, 0), "3 1 1 4");
    }

    private static void mayEnd() {
        Due.says("4 END: it is OVER and all are DONE");
        GlassBox x = one(8);
        Due.habit(x, "say");
        Due.same("all are DONE, not OVER", Due.moves(x, 0, 0), "1 1 1 0 0 0 0 0 4");
        Due.habit(x, "wait");
        Due.same("OVER, not all are DONE", Due.moves(x, 1, 0), "0 0 0 0 0 0 0 0 1 1 1 4");
        x.best();
        Due.due("not OVER", x.table(0, 7, 111 + 567), 0);
        Due.due("OVER", x.table(0, 8, 111 + 567), 4);
        Due.due("OVER, two are DONE", x.table(0, 8, 11 + 56), 1);
        Due.same("plan", Due.plan(x, 0), "0 0 0 0 0 1 1 1 4");
        GlassBox y = one(3);
        Due.habit(y, "say");
        Due.same("END as early as can be", Due.moves(y, 0, 0), "1 1 1 4");
        GlassBox z = one(1);
        Due.habit(z, "drop");
        Due.same("one WORD", Due.moves(z, 0, 0), "3 3 3 4");
    }

    private static void mayGuess() {
        Due.says("10 .. 17 GUESS a VALUE 0 .. 7: NEXT is not FIXED and can have it");
        GlassBox x = new GlassBox();
        for (int v = 0; v < 8; v++) {
            Due.sentence(x, v, 7 - v, 0, 1, 2 + v);
        }
        Due.habit(x, "guess");
        for (int v = 0; v < 8; v++) {
            x.weigh(v, 0, 100);
            Due.same("GUESS " + v + ", then FIXED", Due.moves(x, 0, v), (10 + v) + " 1 1 4");
            x.best();
            Due.due("by the TABLE", x.table(v, 0, 0), 10 + v);
            Due.due("FIXED: SAY", x.table(v, 1, 0), 1);
            x.order(2);
            Due.same("GUESS " + (7 - v) + " in another ORDER", Due.moves(x, 0, v), (17 - v) + " 1 1 4");
            x.order(4);
            Due.same("FIXED first", Due.moves(x, 0, v), "1 1 1 4");
            x.order(0);
            x.weigh(v, 0, 1);
        }
        Due.says("GUESS: NEXT can have it, by what CAN COME alone");
        GlassBox y = pair();
        Due.sentence(y, 0, 2, 3, 9);
        y.weigh(2, 0, 100);
        noTerms(y);
        y.terms(3, 1);
        y.terms(5, 1000);
        y.best();
        Due.due("a VALUE 0 can't come behind WORD 0", y.table(0, 0, 0), 11);
    }

    private static void mayMend() {
        Due.says("20 .. 22 MEND a SLOT 0 .. 2: it is said with a VALUE, and FIXED with another one: that is said now; it costs MEND");
        GlassBox x = new GlassBox();
        Due.sentence(x, 1, 1, 1, 0, 0, 0, 1);
        Due.sentence(x, 2, 2, 2, 0, 0, 0, 2);
        x.terms(3, 0);
        Due.habit(x, "guess;mend");
        Due.same("when they are FIXED with another", Due.moves(x, 0, 1), "11 11 11 20 21 22 4");
        Due.due("three MENDED", x.run(0, 1), 12);
        x.terms(6, 1000);
        Due.due("three MENDED", x.run(0, 1), 3000);
        x.terms(6, 0);
        Due.due("three MENDED", x.run(0, 1), 0);
        for (int slot = 0; slot < 3; slot++) {
            Due.due("that is said now", x.whose(0, 1, slot, 2, 2), 0);
        }
        Due.same("not what is right", Due.moves(x, 0, 0), "11 11 11 0 4");
        Due.habit(x, "drop;mend");
        Due.same("not what is DROPPED", Due.moves(x, 1, 1), "3 3 3 0 4");
        for (int slot = 0; slot < 3; slot++) {
            x.opening(slot, 255, 1);
        }
        Due.habit(x, "open;mend");
        Due.same("not what is OPEN", Due.moves(x, 2, 1), "2 2 2 0 4");
        x.best();
        Due.due("not while it is not FIXED", x.table(1, 2, 111), 0);
        Due.due("OPEN, DROPPED, right", x.table(1, 4, 111 + 892), 4);
        Due.due("OPEN, DROPPED, wrong", x.table(1, 4, 111 + 893), 22);
        Due.due("wrong, DROPPED, OPEN", x.table(1, 4, 111 + 398), 20);
    }

    // ---- what it costs

    private static int runOf(GlassBox x) {
        return x.run(0, 0);
    }

    private static void heldAtLeast() {
        Due.says("HELD behind the MOVE: LOADS of all WORDS that came less RELIEF for each SLOT that is DONE, 0 at least");
        GlassBox x = one(1);
        noTerms(x);
        x.word(10, 0, 9);
        Due.habit(x, "say");
        x.terms(2, 1);
        Due.due("RELIEF 0: 9 three times", runOf(x), 27);
        x.terms(1, 1);
        Due.due("RELIEF 1: 8, 7, 6", runOf(x), 21);
        x.terms(1, 4);
        Due.due("RELIEF 4: 5, 1, 0", runOf(x), 6);
        x.terms(1, 5);
        Due.due("RELIEF 5: 4, 0, 0", runOf(x), 4);
        x.terms(1, 8);
        Due.due("RELIEF 8: 1, 0, 0", runOf(x), 1);
        x.terms(1, 9);
        Due.due("RELIEF 9: 0", runOf(x), 0);
        x.terms(1, 60);
        Due.due("RELIEF 60: 0 at least", runOf(x), 0);
        Due.habit(x, "wait;drop if done<2;say");
        Due.due("9 while nothing is DONE", x.run(1, 0), 9);
        x.terms(1, 3);
        Due.due("DROPPED ones count too: 9, 6, 3, 0", x.run(1, 0), 18);
        x.word(10, 0, 0);
        Due.due("no LOAD", x.run(1, 0), 0);
    }

    private static void fadeAboveHead() {
        Due.says("Each SECOND but that of END costs FADE for each one of HELD above HEAD");
        GlassBox x = one(8);
        noTerms(x);
        for (int i = 0; i < 8; i++) {
            x.word(10 + i, 0, i == 0 ? 9 : 0);
        }
        Due.habit(x, "say");
        x.terms(2, 1);
        x.terms(0, 8);
        Due.due("one above HEAD in 8 SECONDS, none in that of END", runOf(x), 8);
        x.terms(0, 9);
        Due.due("just HEAD", runOf(x), 0);
        x.terms(0, 10);
        Due.due("below HEAD", runOf(x), 0);
        x.terms(0, 60);
        Due.due("far below HEAD", runOf(x), 0);
        x.terms(0, 7);
        x.terms(2, 100);
        Due.due("two above HEAD, FADE 100", runOf(x), 1600);
        x.terms(2, 0);
        Due.due("FADE 0", runOf(x), 0);
        Due.says("the same in LEAST");
        x.terms(2, 1);
        x.terms(0, 8);
        Due.due("one above HEAD in 8 SECONDS", x.best(), 8);
        x.terms(0, 9);
        Due.due("just HEAD", x.best(), 0);
    }

    private static void lagIfOver() {
        Due.says("Each SECOND but that of END costs .. LAG if it is OVER");
        for (int words = 1; words <= 4; words++) {
            GlassBox x = one(words);
            noTerms(x);
            x.terms(3, 100);
            Due.habit(x, "say");
            Due.due(words + " WORDS", runOf(x), 100 * Math.max(3 - words, 0));
            Due.due("LEAST of " + words + " WORDS", x.best(), 100 * Math.max(3 - words, 0));
            Due.habit(x, "wait");
            Due.due("all late", x.run(1, 0), 300);
            x.terms(3, 1);
            Due.due("all late", x.run(1, 0), 3);
            x.terms(3, 0);
            Due.due("LAG 0", x.run(1, 0), 0);
        }
    }

    private static void endCosts() {
        Due.says("At the END each SLOT costs WRONG, if said with a VALUE that is not the SENTENCE's, DROP if it is DROPPED");
        GlassBox x = new GlassBox();
        Due.sentence(x, 1, 1, 1, 0, 0, 0, 1);
        Due.sentence(x, 2, 2, 2, 0, 0, 0, 2);
        noTerms(x);
        x.terms(4, 1000);
        x.terms(5, 1);
        Due.habit(x, "guess");
        Due.due("three right", x.run(0, 0), 0);
        Due.due("three wrong", x.run(0, 1), 3000);
        Due.habit(x, "guess if done<2");
        Due.due("two wrong", x.run(1, 1), 2000);
        Due.habit(x, "guess if done=0;drop");
        Due.due("one wrong, two DROPPED", x.run(2, 1), 1002);
        Due.due("one right, two DROPPED", x.run(2, 0), 2);
        x.terms(4, 0);
        Due.due("WRONG 0", x.run(0, 1), 0);
        x.terms(5, 1000);
        Due.due("two DROPPED", x.run(2, 1), 2000);
        Due.says("the same in LEAST");
        Due.due("to guess wrong costs nothing", x.best(), 0);
        x.terms(3, 1);
        Due.due("to guess wrong costs nothing", x.best(), 0);
        x.terms(4, 1);
        // To GUESS 1, 1 and 2: one is wrong for the first and MENDED in time, two are for the other, one of them in time.
        Due.due("one is wrong", x.best(), 1);
    }

    private static void largestLoss() {
        Due.says("LOSS: all together; WORTH, LEAST: the sum over SENTENCES of WEIGHT times LOSS");
        GlassBox x = new GlassBox();
        for (int s = 0; s < 16; s++) {
            Due.sentence(x, s % 8, s / 8, 7, s, 20, 20, 20, 20, 20, 20, 20);
            x.weigh(s, 0, 100);
            x.word(s, 0, 9);
        }
        x.word(20, 0, 9);
        int[] most = {0, 0, 100, 100, 1000, 1000, 1000, 100, 1000};
        for (int what = 0; what < 9; what++) {
            x.terms(what, most[what]);
        }
        Due.habit(x, "wait;drop");
        // 9, 18, .. 72 HELD; then three late SECONDS of 72, and three DROPPED.
        int each = 100 * 9 * 36 + 3 * (7200 + 100) + 3000;
        Due.due("each", x.run(0, 15), each);
        Due.due("all", x.worth(0), 1600L * each);
        Due.due("LEAST", x.best(), 1600L * 100 * 9 * 36);
        Due.due("what GUESSING is worth", x.guessing(), 0);
        // The first WORD is there from the first of 8 SECONDS on, another from the second on: 7 + 6 + .. + 1.
        Due.due("a WORD of one SENTENCE", x.write(0), 100L * 100 * 9 * 8);
        Due.due("a WORD of all, seven times", x.write(20), 1600L * 100 * 9 * 28);
        Due.due("the most", x.write(NONE), 20);
    }

    // ---- SAID

    /** SLOTS 0 and 2 are FIXED at once, SLOT 1 when it is OVER; to be wrong costs nothing, to be late does. */
    private static GlassBox knownOutside() {
        GlassBox x = new GlassBox();
        Due.sentence(x, 5, 3, 6, 1);
        Due.sentence(x, 5, 4, 6, 1, 2);
        noTerms(x);
        x.terms(3, 1);
        x.terms(5, 100);
        x.terms(6, 100);
        x.best();
        return x;
    }

    private static void saidNext() {
        Due.says("SAID: 0 nothing; 1 and a; 11 and 10 a and b; 111 and 100 a and 10 b and c");
        GlassBox x = knownOutside();
        for (int said = 0; said <= 1110; said++) {
            if (said % 400 == 399) {
                x = knownOutside();
            }
            int want = said < 1 ? 1 : said < 11 ? 13 : said < 111 ? 1 : 0;
            Due.due("NEXT of SAID " + said, x.table(0, 0, said), want);
        }
    }

    /** One SENTENCE that is OVER; to be wrong costs most, to MEND a little. */
    private static GlassBox overAndWrong(int order) {
        GlassBox x = one(1);
        noTerms(x);
        x.terms(4, 1000);
        x.terms(6, 1);
        x.order(order);
        x.best();
        return x;
    }

    private static void saidMended() {
        Due.says("SAID: of the first, second, third in ORDER a VALUE 0 .. 7, 8 OPEN, 9 DROPPED");
        int[] values = {5, 6, 7};
        for (int order = 0; order < 6; order++) {
            GlassBox x = overAndWrong(order);
            for (int said = 111; said <= 1110; said++) {
                if (said % 400 == 0) {
                    x = overAndWrong(order);
                }
                int[] digits = {(said - 111) / 100, (said - 111) / 10 % 10, (said - 111) % 10};
                int want = 4;
                for (int i = 0; i < 3; i++) {
                    int slot = ORDERS[order][i];
                    boolean wrong = digits[i] < 8 && digits[i] != values[slot];
                    want = wrong && (want == 4 || 20 + slot < want) ? 20 + slot : want;
                }
                Due.due("SAID " + said + " in ORDER " + order, x.table(0, 1, said), want);
            }
        }
    }

    private static void saidOutside() {
        Due.says("SAID is a number: 0 .. 1110");
        GlassBox x = one(1);
        x.best();
        for (int bad : new int[] {-1, 1111, MIN, MAX}) {
            Due.due("SAID " + bad, x.table(0, 0, bad), NONE);
            Due.due("SAID " + bad + ", OVER", x.table(0, 1, bad), NONE);
        }
        Due.due("SAID 0", x.table(0, 1, 0), 1);
        Due.due("SAID 1110", x.table(0, 1, 1110), 4);
    }

    // ---- the TABLE

    private static void tableAlike() {
        Due.says("the MOVE that is best from there on, of alike ones the lowest number");
        GlassBox x = one(1);
        x.terms(3, 1);
        x.terms(6, 4);
        x.terms(4, 5);
        x.best();
        Due.due("END or MEND: WRONG is MEND and LAG", x.table(0, 1, 111), 4);
        x.terms(4, 6);
        x.best();
        Due.due("MEND: WRONG is one more", x.table(0, 1, 111), 20);
        Due.due("MEND 20 or 21", x.table(0, 1, 111 + 7), 20);
        Due.due("SAY or MEND first", x.table(0, 1, 11), 1);
        x.order(5);
        x.best();
        Due.due("MEND 20 or 22, last in ORDER", x.table(0, 1, 111), 20);
        x.order(0);
        x.terms(5, 0);
        x.best();
        Due.due("SAY or DROP", x.table(0, 1, 0), 1);
        GlassBox y = pair();
        noTerms(y);
        y.terms(3, 1);
        y.opening(0, 255, 1);
        y.best();
        Due.due("OPEN, DROP or GUESS", y.table(0, 0, 0), 2);
        y.terms(7, 1);
        y.best();
        Due.due("DROP or GUESS", y.table(0, 0, 0), 3);
        y.terms(5, 1);
        y.best();
        Due.due("GUESS 11 or 14", y.table(0, 0, 0), 11);
        y.terms(4, 1);
        y.best();
        Due.due("GUESS 11 or 14: one is WRONG, or to WAIT: two are late", y.table(0, 0, 0), 11);
        y.terms(4, 2);
        y.terms(6, 1);
        y.best();
        Due.due("to WAIT, to OPEN, to DROP, to be WRONG in one: all cost 2 more", y.table(0, 0, 0), 0);
        y.terms(3, 2);
        y.best();
        Due.due("to WAIT costs 4 more, to OPEN 2", y.table(0, 0, 0), 2);
        y.weigh(1, 0, 2);
        y.best();
        Due.due("GUESS 14: 2 for the other", y.table(0, 0, 0), 14);
        y.weigh(0, 0, 2);
        y.best();
        Due.due("OPEN, DROP, GUESS 11, 14: 4 each", y.table(0, 0, 0), 2);
    }

    private static void tableEdges() {
        Due.says("table: in a SECOND (0 .. the SENTENCE's WORDS; that: OVER) with a SAID. NONE");
        GlassBox x = pair();
        Due.due("ahead of any best", x.table(0, 0, 0), NONE);
        x.guessing();
        x.write(0);
        x.write(NONE);
        Due.due("no call but best keeps one", x.table(0, 0, 0), NONE);
        x.best();
        Due.due("SECOND 0", x.table(0, 0, 0), 0);
        Due.due("SECOND 1", x.table(0, 1, 0), 1);
        Due.due("SECOND 2, OVER", x.table(0, 2, 0), 1);
        for (int bad : new int[] {-1, 3, 8, MIN, MAX}) {
            Due.due("SECOND " + bad, x.table(0, bad, 0), NONE);
        }
        for (int bad : new int[] {-1, 2, 15, 16, MIN, MAX}) {
            Due.due("SENTENCE " + bad, x.table(bad, 0, 0), NONE);
        }
        GlassBox y = one(8);
        y.best();
        Due.due("SECOND 7", y.table(0, 7, 0), 1);
        Due.due("SECOND 8, OVER", y.table(0, 8, 0), 1);
        Due.due("SECOND 9", y.table(0, 9, 0), NONE);
    }

    private static void tableOfThen() {
        Due.says("table: NONE (no WEIGHT then, too); best: its TABLE is kept as the latest");
        GlassBox x = pair();
        x.weigh(1, 0, 0);
        x.best();
        Due.due("no WEIGHT", x.table(1, 0, 0), NONE);
        Due.due("no WEIGHT", x.plan(1, 0), NONE);
        Due.due("alone", x.table(0, 0, 0), 1);
        x.weigh(1, 0, 1);
        Due.due("no WEIGHT then", x.table(1, 0, 0), NONE);
        Due.due("no WEIGHT then", x.plan(1, 0), NONE);
        Due.due("alone then", x.table(0, 0, 0), 1);
        x.weigh(0, 0, 0);
        Due.due("a WEIGHT then", x.table(0, 0, 0), 1);
        Due.due("a WEIGHT then", x.plan(0, 0), 1);
        x.order(1);
        x.who(1);
        x.terms(3, 0);
        x.word(0, 0, 9);
        x.opening(0, 255, 1);
        Due.same("all is as it was then", Due.plan(x, 0), "1 1 1 4");
        x.guessing();
        x.write(0);
        x.write(NONE);
        Due.habit(x, "wait");
        x.run(0, 1);
        x.worth(0);
        x.parting(0);
        Due.same("no other call makes another", Due.plan(x, 0), "1 1 1 4");
        x.best();
        // To WAIT fades 3 and 1 in both, to OPEN costs 2 in both, to GUESS a MEND of 4 in one.
        Due.due("the latest", x.table(0, 0, 0), 2);
        Due.due("the latest", x.table(1, 0, 0), 2);
        x.weigh(0, 1, 0);
        x.weigh(1, 1, 0);
        Due.due("nothing can come", x.best(), 0);
        Due.due("the latest has nothing", x.table(0, 0, 0), NONE);
        Due.due("the latest has nothing", x.plan(1, 0), NONE);
    }

    private static void planEdges() {
        Due.says("plan: The MOVE in a SECOND by the latest TABLE from the beginning on; NONE (behind the END, no WEIGHT then, too)");
        GlassBox x = one(8);
        Due.due("ahead of any best", x.plan(0, 0), NONE);
        noTerms(x);
        x.best();
        for (int t = 0; t < 8; t++) {
            Due.due("WAIT in " + t, x.plan(0, t), 0);
        }
        for (int t = 8; t < 11; t++) {
            Due.due("SAY in " + t, x.plan(0, t), 1);
        }
        Due.due("END", x.plan(0, 11), 4);
        for (int bad : new int[] {12, 13, -1, MIN, MAX}) {
            Due.due("SECOND " + bad, x.plan(0, bad), NONE);
        }
        for (int bad : new int[] {-1, 1, 15, 16, MIN, MAX}) {
            Due.due("SENTENCE " + bad, x.plan(bad, 0), NONE);
        }
        GlassBox y = one(1);
        y.best();
        Due.due("END", y.plan(0, 3), 4);
        Due.due("behind the END", y.plan(0, 4), NONE);
        Due.due("behind the END", y.plan(0, 11), NONE);
    }

    private static void leastHangsOnWords() {
        Due.says("each MOVE hangs on the WORDS that came (and on its being OVER) alone");
        GlassBox x = pair();
        Due.due("to WAIT: two late each", x.best(), 4);
        Due.same("alike in SECOND 0", Due.plan(x, 0), "0 1 1 1 4");
        Due.same("alike in SECOND 0", Due.plan(x, 1), "0 1 1 1 4");
        GlassBox y = new GlassBox();
        Due.sentence(y, 0, 0, 0, 1);
        Due.sentence(y, 1, 0, 0, 1, 2);
        Due.due("three late and two", y.best(), 5);
        Due.same("OVER tells it", Due.plan(y, 0), "0 1 1 1 4");
        Due.same("a second WORD tells it", Due.plan(y, 1), "0 1 1 1 4");
        y.weigh(0, 0, 10);
        Due.due("20 with a GUESS, 4 and 2 for the other", y.best(), 26);
        Due.same("guessed", Due.plan(y, 0), "10 1 1 4");
        Due.same("mended behind what is not late", Due.plan(y, 1), "10 1 1 20 4");
    }

    private static void leastNarrowing() {
        Due.says("each MOVE hangs on the WORDS that came: a GUESS that can still be right can be wrong later");
        GlassBox x = new GlassBox();
        Due.sentence(x, 7, 7, 7, 9);
        Due.sentence(x, 1, 0, 0, 0, 1, 1);
        Due.sentence(x, 2, 0, 0, 0, 1, 2);
        Due.sentence(x, 3, 0, 0, 0, 2);
        x.weigh(1, 0, 10);
        // 2 for the first alone; then a GUESS of 1: nothing for the second, 4 and 1 for the third, 4 and 2 for the last.
        Due.due("LEAST", x.best(), 2 + 5 + 6);
        Due.same("it was right", Due.plan(x, 1), "11 1 1 4");
        Due.same("it was wrong by the last WORD", Due.plan(x, 2), "11 1 1 20 4");
        Due.same("it was wrong by the second WORD", Due.plan(x, 3), "11 1 1 20 4");
        Due.same("another first WORD", Due.plan(x, 0), "1 1 1 4");
        x.weigh(0, 0, 0);
        Due.due("LEAST without the first", x.best(), 5 + 6);
    }

    /** SLOT 0 is FIXED by the second of four WORDS, SLOT 1 by the last: VALUES 1 or 2, 0 or 2. */
    private static void leastMendedEarly() {
        Due.says("MEND: that is said now, and costs no more");
        GlassBox x = new GlassBox();
        Due.sentence(x, 1, 0, 0, 0, 1, 5, 1);
        Due.sentence(x, 1, 2, 0, 0, 1, 5, 2);
        Due.sentence(x, 2, 0, 0, 0, 2, 5, 1);
        Due.sentence(x, 2, 2, 0, 0, 2, 5, 2);
        x.terms(4, 1000);
        x.terms(5, 1000);
        x.best();
        Due.due("SLOT 0 is wrong: one SECOND is left for it", x.table(2, 1, 2), 0);
        Due.due("SLOT 0 is wrong: the last SECOND for it", x.table(2, 2, 2), 20);
        Due.due("SLOT 0 is right", x.table(0, 2, 2), 0);
        Due.due("SLOT 0 is wrong, SLOT 1 may be later", x.table(2, 2, 111 + 100), 20);
        Due.due("SLOT 0 is wrong, SLOT 1 is by then", x.table(3, 3, 111 + 100), 20);
        Due.due("both are right", x.table(0, 3, 111 + 100), 0);
        Due.due("SLOT 1 is wrong", x.table(1, 3, 111 + 100), 21);
    }

    private static void leastByWeight() {
        Due.says("LEAST of who speaks: the sum over SENTENCES of WEIGHT times LOSS");
        GlassBox x = one(1);
        Due.due("2", x.best(), 2);
        x.weigh(0, 0, 100);
        Due.due("200", x.best(), 200);
        x.weigh(0, 0, 0);
        Due.due("nothing", x.best(), 0);
        x.who(1);
        Due.due("2 of another", x.best(), 2);
        Due.sentence(x, 0, 0, 0, 1, 2);
        Due.due("1 more", x.best(), 3);
        x.weigh(1, 1, 50);
        Due.due("50 more", x.best(), 52);
        x.weigh(1, 0, 7);
        Due.due("another's WEIGHT", x.best(), 52);
        x.who(0);
        Due.due("by him", x.best(), 7);
    }

    // ---- HABITS

    private static void habitClauses() {
        Due.says("A HABIT's MOVE: of the first CLAUSE .. which can be done then");
        GlassBox x = pair();
        Due.habit(x, "mend;open;say;guess;wait;drop");
        Due.same("the 4th, then the third", Due.moves(x, 0, 0), "11 1 1 4");
        Due.same("then the first", Due.moves(x, 0, 1), "11 20 1 1 4");
        Due.habit(x, "drop if second=1;wait if second=1;drop if second=0");
        Due.same("in every SECOND from the first CLAUSE on", Due.moves(x, 1, 0), "3 3 1 4");
        Due.habit(x, "wait if second=1;drop if second=1");
        Due.same("the first of two", Due.moves(x, 2, 0), "0 0 1 1 1 4");
    }

    private static void habitGuess() {
        Due.says("\"guess\": the VALUE with the greatest WEIGHT of those that NEXT can have by what CAN COME, of alike ones the lowest");
        GlassBox x = new GlassBox();
        Due.sentence(x, 5, 0, 0, 1, 1);
        Due.sentence(x, 5, 0, 0, 1, 2);
        Due.sentence(x, 2, 0, 0, 1, 3);
        Due.sentence(x, 0, 0, 0, 2);
        x.weigh(3, 0, 100);
        Due.habit(x, "guess");
        x.run(0, 0);
        Due.due("2 of 3", x.move(0), 15);
        x.weigh(2, 0, 2);
        x.run(0, 0);
        Due.due("2 and 2: the lowest", x.move(0), 12);
        x.weigh(0, 0, 2);
        x.run(0, 0);
        Due.due("3 and 2", x.move(0), 15);
        x.weigh(2, 0, 4);
        x.run(0, 0);
        Due.due("3 and 4", x.move(0), 12);
        x.who(2);
        x.run(0, 0);
        Due.due("by the WEIGHTS of who speaks", x.move(0), 15);
        for (int low = 0; low < 7; low++) {
            GlassBox y = new GlassBox();
            Due.sentence(y, low + 1, 0, 0, 1, 1);
            Due.sentence(y, low, 0, 0, 1, 2);
            Due.habit(y, "guess");
            y.run(0, 0);
            Due.due("of " + low + " and one more the lowest", y.move(0), 10 + low);
        }
        x.weigh(2, 2, 0);
        x.run(0, 0);
        Due.due("FIXED: not to be done", x.move(0), 1);
    }

    private static void habitMend() {
        Due.says("\"mend\": the lowest SLOT that can be");
        for (int order = 0; order < 6; order++) {
            GlassBox x = new GlassBox();
            Due.sentence(x, 1, 1, 1, 0, 0, 0, 1);
            Due.sentence(x, 2, 2, 2, 0, 0, 0, 2);
            Due.sentence(x, 2, 1, 2, 0, 0, 0, 3);
            Due.sentence(x, 1, 1, 2, 0, 0, 0, 4);
            x.weigh(0, 0, 9);
            x.order(order);
            Due.habit(x, "guess;mend");
            Due.same("all three, ORDER " + order, Due.moves(x, 0, 1), "11 11 11 20 21 22 4");
            Due.same("0 and 2, ORDER " + order, Due.moves(x, 0, 2), "11 11 11 20 22 4");
            Due.same("2, ORDER " + order, Due.moves(x, 0, 3), "11 11 11 22 4");
            Due.same("none, ORDER " + order, Due.moves(x, 0, 0), "11 11 11 0 4");
        }
    }

    private static void habitWithout() {
        Due.says("without one: SAY, if it can be, else WAIT, if it can, else END, else DROP");
        GlassBox x = pair();
        Due.habit(x, "mend");
        Due.same("WAIT, SAY, END", Due.moves(x, 0, 0), "0 1 1 1 4");
        x.weigh(1, 0, 0);
        Due.same("SAY, END", Due.moves(x, 0, 0), "1 1 1 4");
        GlassBox y = one(4);
        Due.habit(y, "mend");
        Due.same("SAY, WAIT, END", Due.moves(y, 0, 0), "1 1 1 0 4");
        Due.habit(y, "wait if 1=2");
        Due.same("no \"if\" is so", Due.moves(y, 1, 0), "1 1 1 0 4");
    }

    /** What is asked for ahead of the MOVE in a SECOND: it is that number, and not one less or more. */
    private static void asks(GlassBox x, int sentence, int second, String ahead, String sum, int value) {
        for (int off = -1; off <= 1; off++) {
            x.back(1);
            int number = value + off;
            String text = ahead + "drop if second=" + second + " and " + sum + "=" + (number < 0 ? "[0-1]" : "" + number) + ";wait;mend";
            Due.due("habit " + text, Due.habit(x, text), 0);
            x.run(0, sentence);
            Due.due(text, x.move(second) == 3 ? 1 : 0, off == 0 ? 1 : 0);
        }
    }

    /** In a SECOND in which nothing can be DROPPED: a MEND shows it. */
    private static void asksAtTheEnd(GlassBox x, int sentence, int second, String ahead, String sum, int value) {
        for (int off = -1; off <= 1; off++) {
            x.back(1);
            int number = value + off;
            String text = ahead + "mend if second=" + second + " and " + sum + "=" + (number < 0 ? "[0-1]" : "" + number) + ";wait";
            Due.due("habit " + text, Due.habit(x, text), 0);
            x.run(0, sentence);
            Due.due(text, x.move(second) >= 20 ? 1 : 0, off == 0 ? 1 : 0);
        }
    }

    private static void askedCounts() {
        Due.says("A SUM, a TEST is asked ahead of the MOVE: done (how many), second, who");
        GlassBox x = one(8);
        x.image(1);
        asks(x, 0, 0, "", "done", 0);
        asks(x, 0, 1, "say if second=0;", "done", 1);
        asks(x, 0, 2, "say if second<2;", "done", 2);
        asks(x, 0, 0, "", "second", 0);
        asks(x, 0, 7, "", "second", 7);
        asks(x, 0, 10, "say if second=8 or second=9;", "second", 10);
        for (int who = 0; who < 4; who++) {
            x.back(1);
            x.who(who);
            x.image(1);
            asks(x, 0, 0, "", "who", who);
        }
        Due.says("known: NEXT is FIXED; over");
        GlassBox y = pair();
        Due.habit(y, "drop if known");
        Due.same("not in SECOND 0", Due.moves(y, 0, 0), "0 3 3 3 4");
        Due.habit(y, "guess;mend if known;say");
        Due.same("not without NEXT", Due.moves(y, 1, 1), "11 20 1 1 4");
        Due.habit(y, "guess;say;mend if known");
        Due.same("not without NEXT", Due.moves(y, 2, 1), "11 1 1 4");
        Due.habit(y, "guess;say;mend if not known and over");
        Due.same("not without NEXT", Due.moves(y, 3, 1), "11 1 1 20 4");
        y.order(2);
        Due.habit(y, "drop if not known");
        Due.same("of NEXT in ORDER", Due.moves(y, 4, 0), "1 1 1 4");
        Due.habit(y, "drop if over;wait");
        Due.same("over", Due.moves(y, 5, 0), "0 0 3 3 3 4");
        Due.habit(y, "drop if not over");
        Due.same("not over", Due.moves(y, 6, 0), "3 3 1 4");
    }

    private static void askedChances() {
        Due.says("likely (the WEIGHT of that VALUE times 100 through that of all that CAN COME, cut; 0 without NEXT)");
        GlassBox x = pair();
        Due.sentence(x, 6, 0, 0, 9);
        x.weigh(2, 0, 100);
        x.image(1);
        asks(x, 0, 0, "", "likely", 50);
        asks(x, 0, 1, "", "likely", 100);
        x.back(1);
        x.weigh(0, 0, 2);
        x.image(1);
        asks(x, 1, 0, "", "likely", 66);
        x.back(1);
        x.weigh(0, 0, 100);
        x.image(1);
        asks(x, 1, 0, "", "likely", 99);
        asks(x, 0, 2, "", "likely", 100);
        asksAtTheEnd(x, 1, 3, "guess;say;", "likely", 0);
        Due.says("left (how many VALUES NEXT can have; 0 without)");
        GlassBox y = new GlassBox();
        for (int v = 0; v < 8; v++) {
            Due.sentence(y, v, 1, 1, 1, 2 + v);
        }
        Due.sentence(y, 0, 1, 1, 1, 10);
        y.image(1);
        asks(y, 0, 0, "", "left", 8);
        asks(y, 0, 1, "", "left", 1);
        y.back(1);
        y.weigh(0, 0, 0);
        y.image(1);
        asks(y, 1, 0, "", "left", 8);
        y.back(1);
        y.weigh(8, 0, 0);
        y.image(1);
        asks(y, 1, 0, "", "left", 7);
        asksAtTheEnd(y, 7, 3, "guess;say;", "left", 0);
    }

    private static void askedLoads() {
        Due.says("load (of all WORDS that came), held, head");
        GlassBox x = one(8);
        for (int i = 0; i < 8; i++) {
            x.word(10 + i, 0, 9);
        }
        x.image(1);
        asks(x, 0, 0, "", "load", 9);
        asks(x, 0, 7, "", "load", 72);
        asks(x, 0, 8, "", "load", 72);
        asks(x, 0, 0, "", "held", 9);
        asks(x, 0, 1, "say if second=0;", "held", 15);
        asks(x, 0, 2, "say if second<2;", "held", 21);
        asks(x, 0, 0, "", "head", 6);
        x.back(1);
        x.terms(0, 60);
        x.terms(1, 60);
        x.image(1);
        asks(x, 0, 0, "", "head", 60);
        asks(x, 0, 1, "say if second=0;", "held", 0);
        asks(x, 0, 7, "say if second=0;", "held", 12);
        x.back(1);
        x.terms(0, 0);
        for (int i = 0; i < 8; i++) {
            x.word(10 + i, 0, 0);
        }
        x.image(1);
        asks(x, 0, 0, "", "head", 0);
        asks(x, 0, 7, "", "load", 0);
        asks(x, 0, 7, "", "held", 0);
    }

    private static void askedWrong() {
        Due.says("wrong (how many SLOTS could be mended)");
        GlassBox x = new GlassBox();
        Due.sentence(x, 1, 1, 1, 0, 0, 0, 1);
        Due.sentence(x, 2, 2, 2, 0, 0, 0, 2);
        x.image(1);
        asks(x, 0, 0, "", "wrong", 0);
        asks(x, 1, 2, "guess if done<2;", "wrong", 0);
        asks(x, 1, 3, "guess if done<1;", "wrong", 1);
        asks(x, 1, 3, "guess if done<2;", "wrong", 2);
        asksAtTheEnd(x, 1, 3, "guess;", "wrong", 3);
        asksAtTheEnd(x, 1, 4, "guess;mend if second=3;", "wrong", 2);
        asksAtTheEnd(x, 1, 5, "guess;mend if second=3 or second=4;", "wrong", 1);
        x.back(1);
        for (int slot = 0; slot < 3; slot++) {
            x.opening(slot, 255, 1);
        }
        x.image(1);
        asksAtTheEnd(x, 1, 3, "guess if done=0;open;", "wrong", 1);
        asksAtTheEnd(x, 1, 3, "drop if done=0;guess if done=1;drop;", "wrong", 1);
    }

    private static void runEdges() {
        Due.says("run: LOSS of a SENTENCE by a HABIT. NONE (no WEIGHT of who speaks, too)");
        GlassBox x = pair();
        Due.due("no TEXT yet", x.run(0, 0), NONE);
        Due.habit(x, "wait");
        Due.due("the only one", x.run(0, 1), 3);
        for (int bad : new int[] {-1, 1, 7, 8, MIN, MAX}) {
            Due.due("TEXT " + bad, x.run(bad, 0), NONE);
        }
        for (int bad : new int[] {-1, 2, 15, 16, MIN, MAX}) {
            Due.due("SENTENCE " + bad, x.run(0, bad), NONE);
        }
        x.weigh(0, 0, 0);
        Due.due("no WEIGHT", x.run(0, 0), NONE);
        Due.due("the other", x.run(0, 1), 3);
        x.who(1);
        Due.due("another has one", x.run(0, 0), 3);
        x.weigh(0, 1, 100);
        Due.due("by one time, not by WEIGHT", x.run(0, 0), 3);
    }

    private static void moveEdges() {
        Due.says("move: The latest run's MOVE in a SECOND; NONE");
        GlassBox x = pair();
        Due.habit(x, "wait");
        Due.habit(x, "drop");
        Due.due("ahead of any run", x.move(0), NONE);
        x.run(2, 0);
        x.run(0, 2);
        Due.due("none that was", x.move(0), NONE);
        x.worth(0);
        x.whose(0, 0, 0, 0, 0);
        x.read(0);
        x.parting(0);
        Due.due("no call but run keeps them", x.move(0), NONE);
        x.run(0, 0);
        Due.due("the first", x.move(0), 0);
        Due.due("the END", x.move(5), 4);
        for (int bad : new int[] {6, 11, 12, -1, MIN, MAX}) {
            Due.due("SECOND " + bad, x.move(bad), NONE);
        }
        x.run(1, 0);
        Due.due("the latest", x.move(0), 3);
        Due.due("the END", x.move(3), 4);
        Due.due("behind it, where the one ahead had more", x.move(4), NONE);
        x.run(2, 0);
        x.run(0, 2);
        x.worth(0);
        x.whose(0, 0, 0, 0, 0);
        Due.due("NONE keeps nothing", x.move(0), 3);
        GlassBox y = one(8);
        Due.habit(y, "wait");
        y.run(0, 0);
        Due.due("the longest: SAY", y.move(10), 1);
        Due.due("the longest: END", y.move(11), 4);
        Due.due("behind it", y.move(12), NONE);
    }

    private static void worthEdges() {
        Due.says("worth: the sum over SENTENCES of WEIGHT times LOSS by it; NONE");
        GlassBox x = new GlassBox();
        Due.due("no TEXT yet", x.worth(0), NONE);
        Due.habit(x, "wait");
        Due.due("no SENTENCES", x.worth(0), 0);
        for (int bad : new int[] {-1, 1, 7, 8, MIN, MAX}) {
            Due.due("TEXT " + bad, x.worth(bad), NONE);
        }
        Due.sentence(x, 0, 0, 0, 1);
        Due.due("3", x.worth(0), 3);
        x.weigh(0, 0, 100);
        Due.due("300", x.worth(0), 300);
        Due.sentence(x, 0, 0, 0, 2);
        Due.due("303", x.worth(0), 303);
        x.weigh(0, 0, 0);
        Due.due("no WEIGHT", x.worth(0), 3);
        x.weigh(1, 0, 0);
        Due.due("nothing can come", x.worth(0), 0);
        x.who(3);
        Due.due("of who speaks", x.worth(0), 6);
    }

    private static void guessingEdges() {
        Due.says("GUESSING is worth how much LEAST would be more without GUESS");
        GlassBox x = pair();
        Due.due("to WAIT is as good", x.guessing(), 0);
        x.weigh(0, 0, 5);
        // To WAIT: two late each, 12. To GUESS 1: one late in 5, and 2 and MEND for the other, 11.
        Due.due("one better", x.guessing(), 1);
        x.weigh(0, 0, 4);
        Due.due("alike", x.guessing(), 0);
        x.weigh(0, 0, 5);
        x.terms(6, 5);
        Due.due("alike", x.guessing(), 0);
        x.terms(6, 4);
        x.opening(0, 255, 1);
        x.terms(7, 0);
        Due.due("to OPEN is better", x.guessing(), 0);
        Due.due("LEAST", x.best(), 6);
        x.weigh(1, 0, 0);
        Due.due("nothing to GUESS", x.guessing(), 0);
        x.weigh(0, 0, 0);
        Due.due("nothing can come", x.guessing(), 0);
        GlassBox zero = new GlassBox();
        Due.sentence(zero, 0, 2, 3, 0, 1);
        Due.sentence(zero, 4, 2, 3, 0, 2);
        zero.weigh(0, 0, 5);
        Due.due("one better, VALUE 0", zero.guessing(), 1);
        zero.weigh(0, 0, 1);
        zero.weigh(1, 0, 5);
        Due.due("one better, VALUE 4", zero.guessing(), 1);
        Due.says("guessing leaves LEAST as it is");
        GlassBox y = pair();
        y.weigh(0, 0, 100);
        Due.due("LEAST", y.best(), 106);
        Due.due("GUESSING", y.guessing(), 96);
        Due.due("LEAST", y.best(), 106);
        Due.due("GUESSING", y.guessing(), 96);
    }

    private static void writeEdges() {
        Due.says("To WRITE a WORD down is worth how much LEAST would be less if its LOAD were 0; write: NONE");
        GlassBox x = new GlassBox();
        Due.sentence(x, 0, 0, 0, 0, 29, 5);
        x.terms(0, 0);
        x.terms(1, 0);
        // 1, 2, 3 HELD.
        Due.due("LEAST", x.best(), 6);
        Due.due("WORD 0", x.write(0), 3);
        Due.due("WORD 29", x.write(29), 2);
        Due.due("WORD 5", x.write(5), 1);
        Due.due("a WORD of no SENTENCE", x.write(1), 0);
        for (int bad : new int[] {30, -2, MIN, MAX}) {
            Due.due("WORD " + bad, x.write(bad), NONE);
        }
        x.word(0, 0, 0);
        Due.due("its LOAD is 0", x.write(0), 0);
        x.word(0, 0, 9);
        Due.due("its LOAD is 9", x.write(0), 27);
        Due.due("its LOAD stays", x.word(0, 0, 1), 9);
        x.weigh(0, 0, 100);
        Due.due("by WEIGHT", x.write(0), 300);
        x.weigh(0, 0, 0);
        Due.due("nobody says it", x.write(0), 0);
        x.who(1);
        Due.due("another does", x.write(0), 3);
        x.terms(2, 0);
        Due.due("nothing fades", x.write(0), 0);
        x.terms(2, 1);
        x.terms(0, 2);
        Due.due("HEAD 2: one above once", x.write(0), 1);
        x.terms(0, 3);
        Due.due("HEAD 3: none above", x.write(0), 0);
        GlassBox y = new GlassBox();
        Due.sentence(y, 0, 0, 0, 7, 7, 7);
        y.terms(0, 0);
        y.terms(1, 0);
        Due.due("a WORD that comes three times", y.write(7), 6);
        GlassBox z = pair();
        z.weigh(0, 0, 100);
        z.terms(0, 0);
        z.terms(1, 0);
        // 1, 2, 2 HELD and one late for the first, one SECOND more and a MEND for the other; or 0, 1, 1.
        Due.due("LEAST with a GUESS", z.best(), 600 + 13);
        Due.due("LEAST with a GUESS either way", z.write(0), 613 - 300 - 9);
    }

    private static void writeMost() {
        Due.says("write: (word NONE: the WORD for which that is most above 0, of alike ones the first). NONE.");
        GlassBox x = new GlassBox();
        Due.due("no SENTENCES", x.write(NONE), NONE);
        Due.sentence(x, 0, 0, 0, 9, 3, 6);
        Due.due("nothing is worth anything", x.write(NONE), NONE);
        x.terms(0, 0);
        x.terms(1, 0);
        Due.due("the one that comes first", x.write(NONE), 9);
        x.word(9, 0, 0);
        Due.due("the next one", x.write(NONE), 3);
        x.word(6, 0, 2);
        Due.due("3 or 6: the first WORD", x.write(NONE), 3);
        x.word(6, 0, 3);
        Due.due("6: one more", x.write(NONE), 6);
        x.word(9, 0, 1);
        Due.due("6 or 9: the first WORD", x.write(NONE), 6);
        x.word(3, 0, 0);
        x.word(6, 0, 0);
        x.word(9, 0, 0);
        Due.due("no LOADS", x.write(NONE), NONE);
        x.word(6, 0, 1);
        Due.due("1 above 0", x.write(NONE), 6);
        x.terms(2, 0);
        Due.due("nothing fades", x.write(NONE), NONE);
        x.terms(2, 1);
        x.weigh(0, 0, 0);
        Due.due("nobody says it", x.write(NONE), NONE);
        GlassBox z = one(3);
        z.word(10, 0, 9);
        z.word(11, 0, 0);
        z.word(12, 0, 0);
        Due.due("9 HELD would fade, but one is said at once", z.best(), 0);
        Due.due("no WORD is worth it", z.write(NONE), NONE);
        z.terms(1, 2);
        Due.due("7 HELD fades by one once", z.best(), 1);
        Due.due("one is", z.write(NONE), 10);
        GlassBox y = new GlassBox();
        Due.sentence(y, 0, 0, 0, 0);
        Due.sentence(y, 0, 0, 0, 29);
        y.terms(0, 0);
        y.terms(1, 0);
        Due.due("0 or 29", y.write(NONE), 0);
        y.weigh(1, 0, 2);
        Due.due("29", y.write(NONE), 29);
    }
}
