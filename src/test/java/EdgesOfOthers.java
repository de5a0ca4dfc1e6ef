/** Part IV of the document's terms and promises 25 to 37: each sentence that names an edge, by itself. */
public final class EdgesOfOthers {
    private static final int NONE = Due.NONE;
    private static final int MIN = Due.MIN;
    private static final int MAX = Due.MAX;

    public static void main(String[] args) {
        boxRanges();
        boxPlaces();
        chainCut();
        chainHalved();
        chainLimits();
        chainAlike();
        linkEdges();
        tiredRanges();
        relieveRange();
        relieveSixty();
        relieveCosts();
        relieveAlike();
        changeEdges();
        glossaryRange();
        glossaryMinutes();
        glossarySaves();
        glossaryAlike();
        whoseParts();
        whoseNone();
        readBytes();
        readTexts();
        readNone();
        partingMost();
        partingNone();
        imageRange();
        imageKeeps();
        imagesPlaceByPlace();
        imageKeepsNot();
        imagesStay();
        countEdges();
        Due.end("EdgesOfOthers");
    }

    private static GlassBox pair() {
        GlassBox x = new GlassBox();
        Due.sentence(x, 1, 2, 3, 0, 1);
        Due.sentence(x, 4, 2, 3, 0, 2);
        return x;
    }

    // ---- BOXES

    private static void boxRanges() {
        Due.says("BOXES: LAG 0 .. 60, KEEPS 0 .. 100 hundredths, LIMIT 0 .. 300; box: -1");
        GlassBox x = new GlassBox();
        for (int bad : new int[] {-1, 61, MIN, MAX}) {
            Due.refused(x, "LAG " + bad, x.box(bad, 0, 0), -1);
        }
        for (int bad : new int[] {-1, 101, MIN, MAX}) {
            Due.refused(x, "KEEPS " + bad, x.box(0, bad, 0), -1);
        }
        for (int bad : new int[] {-1, 301, MIN, MAX}) {
            Due.refused(x, "LIMIT " + bad, x.box(0, 0, bad), -1);
        }
        Due.due("none of them has a place", x.count(3), 0);
        Due.due("none of them has a place", x.chain(), NONE);
        Due.taken(x, "least", x.box(0, 0, 0), 0);
        Due.taken(x, "most", x.box(60, 100, 300), 1);
    }

    private static void boxPlaces() {
        Due.says("BOXES 0 .. 5 (6 at most); box: its number. -1; -5.");
        GlassBox x = new GlassBox();
        for (int i = 0; i < 6; i++) {
            Due.taken(x, "box " + i, x.box(0, 100, 0), i);
            Due.due("count", x.count(3), i + 1);
        }
        Due.refused(x, "a 7th", x.box(0, 0, 0), -5);
        Due.due("count", x.count(3), 6);
        Due.refused(x, "a 7th, LAG 61", x.box(61, 0, 0), -1);
        Due.refused(x, "a 7th, KEEPS -1", x.box(0, -1, 0), -1);
        Due.refused(x, "a 7th, LIMIT 301", x.box(0, 0, 301), -1);
        Due.due("the 7th is nowhere", x.chain(), 1000000);
        Due.due("no 7th", x.link(6), NONE);
    }

    private static void chainCut() {
        Due.says("each keeps of 1,000,000 that come first KEEPS hundredths of what comes to it, cut");
        int[] due = {330000, 108900, 35937, 11859, 3913, 1291};
        GlassBox x = new GlassBox();
        for (int i = 0; i < 6; i++) {
            x.box(0, 33, 0);
            Due.due(i + 1 + " of 33", x.chain(), due[i]);
        }
        Due.due("1", kept(1), 10000);
        Due.due("100", kept(100), 1000000);
        Due.due("0", kept(0), 0);
        Due.due("99 and 99", kept(99, 99), 980100);
        Due.due("1 three times", kept(1, 1, 1), 1);
        Due.due("1 four times", kept(1, 1, 1, 1), 0);
        Due.due("1 three times, 100 three times", kept(1, 100, 1, 100, 1, 100), 1);
    }

    private static int kept(int... keeps) {
        GlassBox x = new GlassBox();
        for (int k : keeps) {
            x.box(0, k, 0);
        }
        return x.chain();
    }

    private static void chainHalved() {
        Due.says("half of that, cut, if the LAGS of those ahead of it are together above its LIMIT");
        int[] due = {330000, 54450, 8984, 1482, 244, 40};
        GlassBox x = new GlassBox();
        for (int i = 0; i < 6; i++) {
            x.box(1, 33, 0);
            Due.due(i + 1 + " of 33, all but the first halved", x.chain(), due[i]);
        }
        GlassBox y = new GlassBox();
        y.box(60, 100, 0);
        Due.due("its own LAG does not count", y.chain(), 1000000);
        y.box(0, 100, 0);
        Due.due("nor that of those behind it", y.chain(), 1000000);
        Due.due("the second is first", y.link(0), 1);
    }

    private static void chainLimits() {
        Due.says("above its LIMIT");
        for (int limit = 299; limit <= 300; limit++) {
            GlassBox x = new GlassBox();
            for (int i = 0; i < 6; i++) {
                x.box(60, 100, limit);
            }
            Due.due("300 LAGS ahead of the last, LIMIT " + limit, x.chain(), limit == 300 ? 1000000 : 500000);
        }
        for (int limit = 9; limit <= 11; limit++) {
            GlassBox x = new GlassBox();
            x.box(10, 100, 0);
            x.box(10, 100, limit);
            Due.due("10 LAGS, LIMIT " + limit, x.chain(), limit < 10 ? 500000 : 1000000);
            Due.due("0 is first in any case", x.link(0), 0);
        }
        GlassBox x = new GlassBox();
        x.box(10, 100, 300);
        x.box(10, 100, 300);
        x.box(0, 100, 19);
        Due.due("20 LAGS together are above 19: it goes ahead", x.chain(), 1000000);
        Due.due("0", x.link(0), 0);
        Due.due("2", x.link(1), 2);
        Due.due("1", x.link(2), 1);
    }

    private static void chainAlike() {
        Due.says("CHAIN: the row by which the most is kept at the end, of alike ones the first as rows");
        GlassBox x = new GlassBox();
        for (int i = 0; i < 6; i++) {
            x.box(10, 50, 300);
        }
        Due.due("all alike", x.chain(), 15625);
        for (int i = 0; i < 6; i++) {
            Due.due("the first row", x.link(i), i);
        }
        GlassBox y = new GlassBox();
        for (int i = 0; i < 6; i++) {
            y.box(i, 0, 0);
        }
        Due.due("nothing is kept", y.chain(), 0);
        for (int i = 0; i < 6; i++) {
            Due.due("the first row all the same", y.link(i), i);
        }
        GlassBox z = new GlassBox();
        z.box(5, 100, 300);
        z.box(5, 100, 0);
        z.box(0, 100, 300);
        Due.due("1 must have no LAG ahead", z.chain(), 1000000);
        Due.due("1 0 2 is ahead of 1 2 0 and 2 1 0", z.link(0), 1);
        Due.due("1 0 2", z.link(1), 0);
        Due.due("1 0 2", z.link(2), 2);
        GlassBox last = new GlassBox();
        for (int i = 0; i < 6; i++) {
            last.box(1, 100, 5 - i);
        }
        Due.due("the last row of all is the only one", last.chain(), 1000000);
        for (int i = 0; i < 6; i++) {
            Due.due("5 4 3 2 1 0", last.link(i), 5 - i);
        }
        Due.says("cut: by rows that keep more because of what is cut where");
        GlassBox cut = new GlassBox();
        cut.box(0, 1, 0);
        cut.box(0, 1, 0);
        cut.box(0, 99, 0);
        cut.box(0, 99, 0);
        // 10000, 100, 99, 98; the other way round 990000, 980100, 9801, 98.
        Due.due("98", cut.chain(), 98);
        Due.due("the first row", cut.link(0), 0);
        Due.due("the first row", cut.link(3), 3);
        GlassBox most = new GlassBox();
        most.box(0, 99, 0);
        most.box(0, 1, 0);
        most.box(1, 1, 0);
        most.box(0, 1, 0);
        // 0 last: 10000, 100, 1, 0; any other way 0 too.
        Due.due("0", most.chain(), 0);
        Due.due("the first row", most.link(0), 0);
    }

    private static void linkEdges() {
        Due.says("chain: kept as the latest. NONE without BOXES; link: The i-th BOX in the latest CHAIN; NONE.");
        GlassBox x = new GlassBox();
        Due.due("without BOXES", x.chain(), NONE);
        Due.due("without a CHAIN", x.link(0), NONE);
        x.image(0);
        x.box(1, 100, 0);
        Due.due("not asked for yet", x.link(0), NONE);
        x.chain();
        Due.due("one", x.link(0), 0);
        Due.due("no second", x.link(1), NONE);
        x.box(0, 100, 0);
        Due.due("still the latest", x.link(0), 0);
        Due.due("still the latest", x.link(1), NONE);
        x.chain();
        Due.due("the latest", x.link(0), 1);
        Due.due("the latest", x.link(1), 0);
        for (int bad : new int[] {-1, 2, 5, 6, MIN, MAX}) {
            Due.due("link(" + bad + ")", x.link(bad), NONE);
        }
        x.back(0);
        Due.due("without BOXES again", x.chain(), NONE);
        Due.due("the latest stays", x.link(0), 1);
        x.box(0, 100, 0);
        x.chain();
        Due.due("a shorter one", x.link(0), 0);
        Due.due("a shorter one", x.link(1), NONE);
    }

    // ---- RELIEVED

    private static void tiredRanges() {
        Due.says("TIRED: of a minute 0 .. 59 on, what it costs 0 .. 1000 (0 at first); tired: -1");
        for (int m : new int[] {0, 1, 58, 59}) {
            int minute = m;
            GlassBox x = new GlassBox();
            Due.range(x, "TIRED of " + m, v -> x.tired(minute, v), 0, 0, 1000);
        }
        GlassBox x = new GlassBox();
        for (int bad : new int[] {-1, 60, MIN, MAX}) {
            Due.refused(x, "minute " + bad, x.tired(bad, 1), -1);
        }
        for (int m = 0; m < 60; m++) {
            Due.due("at first", x.tired(m, 100 + m), 0);
        }
        for (int m = 0; m < 60; m++) {
            Due.due("what it cost", x.tired(m, 0), 100 + m);
        }
    }

    private static void relieveRange() {
        Due.says("RELIEVED in n minutes (1 .. 120); relieve: NONE.");
        GlassBox x = new GlassBox();
        for (int bad : new int[] {0, 121, -1, MIN, MAX}) {
            Due.due("relieve(" + bad + ")", x.relieve(bad), NONE);
            Due.due("nothing is kept", x.change(0), NONE);
        }
        x.tired(0, 3);
        Due.due("1", x.relieve(1), 3);
        Due.due("120", x.relieve(120), 11);
        for (int bad : new int[] {0, 121, -1, MIN, MAX}) {
            Due.due("relieve(" + bad + ")", x.relieve(bad), NONE);
            Due.due("the latest stays", x.change(NONE), 1);
        }
    }

    private static void relieveSixty() {
        Due.says("(60 minutes on at most)");
        GlassBox x = new GlassBox();
        x.terms(8, 1000);
        Due.due("59", x.relieve(59), 0);
        Due.due("no change", x.change(NONE), 0);
        Due.due("60", x.relieve(60), 0);
        Due.due("no change", x.change(NONE), 0);
        Due.due("61", x.relieve(61), 1000);
        Due.due("one change", x.change(NONE), 1);
        Due.due("as late as can be", x.change(0), 60);
        Due.due("120", x.relieve(120), 1000);
        Due.due("one change", x.change(NONE), 1);
        Due.due("as late as can be", x.change(0), 60);
        x.tired(59, 1000);
        Due.due("60: to sit or to change", x.relieve(60), 1000);
        Due.due("no change is later", x.change(NONE), 0);
        x.terms(8, 999);
        Due.due("60: to change", x.relieve(60), 999);
        Due.due("in the last minute", x.change(0), 59);
        x.terms(8, 1000);
        Due.due("118: one change", x.relieve(118), 1000);
        Due.due("59 and 59", x.change(0), 59);
        Due.due("119: two changes, or one and the 60th minute", x.relieve(119), 2000);
        Due.due("as late as can be", x.change(0), 60);
        Due.due("no more", x.change(NONE), 1);
    }

    private static void relieveCosts() {
        Due.says("who sits changes ahead of any minute but the first, for CHANGE each time, and begins anew at 0");
        GlassBox x = new GlassBox();
        for (int m = 1; m < 60; m++) {
            x.tired(m, 10);
        }
        x.terms(8, 9);
        Due.due("1 minute: none", x.relieve(1), 0);
        Due.due("none", x.change(NONE), 0);
        Due.due("2 minutes: one", x.relieve(2), 9);
        Due.due("ahead of minute 1", x.change(0), 1);
        Due.due("120 minutes: ahead of each", x.relieve(120), 9 * 119);
        Due.due("119", x.change(NONE), 119);
        Due.due("the first", x.change(0), 1);
        Due.due("the last", x.change(118), 119);
        x.terms(8, 0);
        Due.due("for nothing", x.relieve(120), 0);
        Due.due("119", x.change(NONE), 119);
        x.terms(8, 1000);
        Due.due("one change at most pays", x.relieve(60), 590);
        Due.due("none", x.change(NONE), 0);
        x.tired(0, 1000);
        Due.due("it begins anew at 0: 1000", x.relieve(61), 1000 + 590 + 1000 + 1000);
        for (int m = 0; m < 60; m++) {
            x.tired(m, 1000);
        }
        Due.due("all that can be", x.relieve(120), 121000);
    }

    private static void relieveAlike() {
        Due.says("the least cost, of alike ones the row that changes later where two rows part first");
        GlassBox x = new GlassBox();
        x.tired(1, 5);
        x.tired(2, 100);
        Due.due("2: to sit or to change", x.relieve(2), 5);
        Due.due("no change is later", x.change(NONE), 0);
        Due.due("3: 1, or 2, or 1 and 2", x.relieve(3), 10);
        Due.due("one change", x.change(NONE), 1);
        Due.due("2", x.change(0), 2);
        Due.due("4: 2, or 1 and 3, or others", x.relieve(4), 15);
        Due.due("one change", x.change(NONE), 1);
        Due.due("2", x.change(0), 2);
        Due.due("5", x.relieve(5), 20);
        Due.due("two changes", x.change(NONE), 2);
        Due.due("2", x.change(0), 2);
        Due.due("and 4", x.change(1), 4);
        x.tired(1, 4);
        Due.due("5: 4 and 5 and 4 and 5", x.relieve(5), 18);
        Due.due("2", x.change(0), 2);
        Due.due("and 4", x.change(1), 4);
        x.tired(1, 6);
        Due.due("5: 5 each", x.relieve(5), 20);
        Due.due("four changes", x.change(NONE), 4);
        GlassBox y = new GlassBox();
        y.terms(8, 0);
        Due.due("nothing costs anything", y.relieve(120), 0);
        Due.due("only where it must be", y.change(NONE), 1);
        Due.due("as late as can be", y.change(0), 60);
    }

    private static void changeEdges() {
        Due.says("change: The minute ahead of which the i-th change-over of the latest RELIEVED comes (i NONE: how many). NONE.");
        GlassBox x = new GlassBox();
        Due.due("ahead of any", x.change(0), NONE);
        Due.due("ahead of any, how many", x.change(NONE), NONE);
        x.relieve(60);
        Due.due("how many", x.change(NONE), 0);
        Due.due("none", x.change(0), NONE);
        x.relieve(61);
        Due.due("how many", x.change(NONE), 1);
        Due.due("60", x.change(0), 60);
        for (int bad : new int[] {1, -2, 119, 120, MIN, MAX}) {
            Due.due("change(" + bad + ")", x.change(bad), NONE);
        }
        x.tired(5, 1000);
        Due.due("the latest still", x.change(0), 60);
        x.relieve(10);
        Due.due("the latest", x.change(0), 5);
        x.relieve(3);
        Due.due("the latest has none", x.change(0), NONE);
        Due.due("the latest has none", x.change(NONE), 0);
    }

    // ---- GLOSSARY

    private static void glossaryRange() {
        Due.says("GLOSSARY for T minutes (0 .. 240); glossary: what 0, 1. NONE.");
        GlassBox x = new GlassBox();
        Due.due("0", x.glossary(0, 0), 0);
        Due.due("0", x.glossary(0, 1), 0);
        Due.due("240", x.glossary(240, 0), 0);
        for (int bad : new int[] {-1, 241, MIN, MAX}) {
            Due.due("T " + bad, x.glossary(bad, 0), NONE);
            Due.due("T " + bad, x.glossary(bad, 1), NONE);
        }
        for (int bad : new int[] {-1, 2, MIN, MAX}) {
            Due.due("what " + bad, x.glossary(10, bad), NONE);
        }
    }

    private static void glossaryMinutes() {
        Due.says("WORDS to look up, each LOOK minutes, T at most together");
        GlassBox x = new GlassBox();
        Due.sentence(x, 0, 0, 0, 0, 29);
        for (int w = 0; w < 30; w++) {
            x.word(w, 1, 60);
        }
        x.word(0, 2, 1);
        x.word(29, 2, 9);
        Due.due("59", x.glossary(59, 0), 0);
        Due.due("59", x.glossary(59, 1), 0);
        Due.due("60", x.glossary(60, 0), 9);
        Due.due("60", x.glossary(60, 1), 1 << 29);
        Due.due("119", x.glossary(119, 0), 9);
        Due.due("120", x.glossary(120, 0), 10);
        Due.due("120", x.glossary(120, 1), 1 << 29 | 1);
        x.word(29, 1, 1);
        Due.due("1", x.glossary(1, 0), 9);
        Due.due("1", x.glossary(1, 1), 1 << 29);
        Due.due("60", x.glossary(60, 0), 9);
        Due.due("61", x.glossary(61, 0), 10);
        GlassBox y = new GlassBox();
        for (int w = 0; w < 30; w++) {
            y.word(w, 1, 8);
        }
        Due.due("all of 8 minutes", y.glossary(240, 1), (1 << 30) - 1);
        Due.due("all but one", y.glossary(239, 1), (1 << 29) - 1);
        y.word(0, 1, 9);
        Due.due("the lowest one all the same", y.glossary(240, 1), (1 << 29) - 1);
        for (int w = 0; w < 30; w++) {
            y.word(w, 1, 1);
        }
        Due.due("seven of one minute", y.glossary(7, 1), (1 << 7) - 1);
        for (int w = 0; w < 30; w++) {
            y.word(w, 1, 8);
        }
        Due.due("none of eight, whatever was asked ahead", y.glossary(7, 1), 0);
        Due.due("one of eight", y.glossary(8, 1), 1);
    }

    private static void glossarySaves() {
        Due.says("each saves WEIGHTS of who speaks times SPARES for each time it stands in a SENTENCE");
        GlassBox x = new GlassBox();
        Due.sentence(x, 0, 0, 0, 4, 4, 4, 4, 4, 4, 4, 4);
        Due.due("SPARES 0", x.glossary(240, 0), 0);
        x.word(4, 2, 1);
        Due.due("8 times", x.glossary(240, 0), 8);
        x.word(4, 2, 9);
        Due.due("8 times 9", x.glossary(240, 0), 72);
        x.weigh(0, 0, 100);
        Due.due("times 100", x.glossary(240, 0), 7200);
        Due.sentence(x, 0, 0, 0, 4);
        Due.due("once more", x.glossary(240, 0), 7209);
        x.weigh(0, 0, 0);
        Due.due("without the first", x.glossary(240, 0), 9);
        x.who(3);
        Due.due("of who speaks", x.glossary(240, 0), 81);
        GlassBox y = new GlassBox();
        for (int s = 0; s < 16; s++) {
            Due.sentence(y, 0, 0, 0, 4, 4, 4, 4, 4, 4, s / 4, s % 4);
            y.weigh(s, 0, 100);
        }
        for (int w = 0; w < 5; w++) {
            y.word(w, 2, 9);
        }
        Due.due("6 times 16 of 4", y.glossary(5, 0), 6 * 16 * 900);
        Due.due("4", y.glossary(5, 1), 16);
        Due.due("all", y.glossary(25, 0), 8 * 16 * 900);
        Due.due("all", y.glossary(25, 1), 31);
        Due.due("all but one", y.glossary(24, 0), 6 * 16 * 900 + 3 * 8 * 900);
        Due.due("all but one", y.glossary(24, 1), 16 + 7);
    }

    private static void glossaryAlike() {
        Due.says("The most; of alike ones the set that has the lowest WORD in which two sets part");
        GlassBox x = new GlassBox();
        Due.sentence(x, 0, 0, 0, 1, 2, 3, 4);
        x.word(1, 2, 3);
        x.word(2, 2, 2);
        x.word(3, 2, 3);
        x.word(4, 2, 1);
        for (int w = 0; w < 30; w++) {
            x.word(w, 1, 10);
        }
        Due.due("1 or 3", x.glossary(10, 1), 2);
        Due.due("1 and 3", x.glossary(20, 1), 2 + 8);
        x.word(1, 1, 20);
        Due.due("3", x.glossary(10, 1), 8);
        Due.due("2 and 3 save more than 1", x.glossary(20, 1), 4 + 8);
        x.word(1, 2, 5);
        Due.due("1, or 2 and 3", x.glossary(20, 0), 5);
        Due.due("1: the lowest", x.glossary(20, 1), 2);
        Due.due("1 and 3", x.glossary(30, 1), 2 + 8);
        x.word(3, 2, 2);
        Due.due("1 and 2, or 1 and 3", x.glossary(30, 1), 2 + 4);
        Due.says("a WORD that saves nothing is in the set too, where there is time for it");
        Due.due("0 and 1 and 2 and 3 and 4", x.glossary(60, 1), 31);
        Due.due("without 0: 4 saves 1", x.glossary(50, 1), 30);
        Due.due("0 alone", new GlassBox().glossary(5, 1), 1);
        Due.due("none", new GlassBox().glossary(4, 1), 0);
    }

    // ---- WHOSE

    private static void whoseParts() {
        Due.says("WHOSE: 1 the speaker's; 2 hers, (or no VALUE); 4 the third one's, if it is another than hers; together");
        GlassBox x = pair();
        Due.habit(x, "guess;say");
        for (int meant = 0; meant < 8; meant++) {
            for (int third = 0; third < 8; third++) {
                // She says 1, the first SENTENCE has 1, the second 4.
                int right = (meant != 1 ? 1 : 0) + (third != 1 ? 4 : 0);
                Due.due("right, meant " + meant + ", third " + third, x.whose(0, 0, 0, meant, third), right);
                int wrong = (meant != 4 ? 1 : 0) + 2 + (third != 1 ? 4 : 0);
                Due.due("wrong, meant " + meant + ", third " + third, x.whose(0, 1, 0, meant, third), wrong);
            }
        }
        Due.says("what she said by a HABIT at the END");
        Due.habit(x, "guess;mend if over;say");
        Due.due("MENDED ahead of the END", x.whose(1, 1, 0, 4, 4), 0);
        Due.habit(x, "drop");
        Due.due("DROPPED", x.whose(2, 0, 0, 1, 1), 6);
        Due.due("DROPPED, as DROPPED is no VALUE", x.whose(2, 0, 2, 3, 0), 6);
        x.opening(0, 255, 1);
        Due.habit(x, "open");
        Due.due("OPEN", x.whose(3, 0, 0, 1, 1), 6);
        Due.due("OPEN, not what was meant", x.whose(3, 0, 0, 2, 1), 7);
        Due.due("another SLOT", x.whose(3, 0, 1, 2, 2), 0);
        Due.due("the last SLOT", x.whose(3, 0, 2, 3, 3), 0);
    }

    private static void whoseNone() {
        Due.says("whose: NONE");
        GlassBox x = pair();
        Due.due("no TEXT yet", x.whose(0, 0, 0, 1, 1), NONE);
        Due.habit(x, "say");
        Due.due("nobody's", x.whose(0, 0, 0, 1, 1), 0);
        for (int bad : new int[] {-1, 1, 7, 8, MIN, MAX}) {
            Due.due("TEXT " + bad, x.whose(bad, 0, 0, 1, 1), NONE);
        }
        for (int bad : new int[] {-1, 2, 15, 16, MIN, MAX}) {
            Due.due("SENTENCE " + bad, x.whose(0, bad, 0, 1, 1), NONE);
        }
        for (int bad : new int[] {-1, 3, MIN, MAX}) {
            Due.due("SLOT " + bad, x.whose(0, 0, bad, 1, 1), NONE);
        }
        for (int bad : new int[] {-1, 8, 9, MIN, MAX}) {
            Due.due("meant " + bad, x.whose(0, 0, 0, bad, 1), NONE);
            Due.due("third " + bad, x.whose(0, 0, 0, 1, bad), NONE);
        }
        x.weigh(0, 0, 0);
        Due.due("no WEIGHT of who speaks", x.whose(0, 0, 0, 1, 1), NONE);
        Due.due("the other", x.whose(0, 1, 0, 4, 4), 0);
        x.who(1);
        Due.due("another has one", x.whose(0, 0, 0, 1, 1), 0);
    }

    // ---- READ

    private static void readBytes() {
        Due.says("READ: a byte for each SECOND (255: not heard; any other is one; END is one, and as many bytes as SECONDS)");
        GlassBox x = pair();
        Due.habit(x, "say");
        Due.due("0 1 1 1 4", Due.read(x, 0, 0, 1, 1, 1, 4), 1);
        Due.due("the END is missing", Due.read(x, 0, 0, 1, 1, 1), 0);
        Due.due("one more behind it", Due.read(x, 0, 0, 1, 1, 1, 4, 255), 0);
        Due.due("one more behind it", Due.read(x, 0, 0, 1, 1, 1, 4, 4), 0);
        Due.due("nothing heard", Due.read(x, 0, 255, 255, 255, 255, 255), 1);
        Due.due("nothing heard, one less", Due.read(x, 0, 255, 255, 255, 255), 0);
        Due.due("nothing heard, one more", Due.read(x, 0, 255, 255, 255, 255, 255, 255), 0);
        Due.due("no bytes", x.read(0), 0);
        for (int i = 0; i < 5; i++) {
            int[] moves = {0, 1, 1, 1, 4};
            int right = moves[i];
            for (int b = 0; b < 256; b++) {
                if (b % 50 == 49) {
                    x = pair();
                    Due.habit(x, "say");
                }
                moves[i] = b;
                Due.due("byte " + i + " is " + b, Due.read(x, 0, moves), b == right || b == 255 ? 1 : 0);
            }
        }
        GlassBox y = new GlassBox();
        Due.sentence(y, 0, 0, 0, 1, 2, 3, 4, 5, 6, 7, 8);
        Due.habit(y, "wait");
        Due.due("12 SECONDS", Due.read(y, 0, 0, 0, 0, 0, 0, 0, 0, 0, 1, 1, 1, 4), 1);
        Due.due("13 bytes", Due.read(y, 0, 0, 0, 0, 0, 0, 0, 0, 0, 1, 1, 1, 4, 255), 0);
        int[] all = new int[400];
        java.util.Arrays.fill(all, 255);
        Due.due("400 bytes", Due.read(y, 0, all), 0);
    }

    private static void readTexts() {
        Due.says("read: TEXTS as bits");
        GlassBox x = pair();
        Due.due("no TEXTS", Due.read(x, 0, 0, 1, 1, 1, 4), 0);
        for (int i = 0; i < 8; i++) {
            Due.habit(x, i % 2 == 0 ? "say" : i == 7 ? "guess" : "drop");
        }
        Due.due("0, 2, 4, 6", Due.read(x, 0, 0, 1, 1, 1, 4), 1 + 4 + 16 + 64);
        Due.due("1, 3, 5", Due.read(x, 0, 3, 3, 3, 4), 2 + 8 + 32);
        Due.due("7", Due.read(x, 0, 11, 1, 1, 4), 128);
        Due.due("1, 3, 5, 7", Due.read(x, 0, 255, 255, 255, 4), 2 + 8 + 32 + 128);
        Due.due("GUESS 4: none", Due.read(x, 0, 14, 1, 1, 4), 0);
    }

    private static void readNone() {
        Due.says("read: for a SENTENCE, the TAPE is empty then. NONE.");
        GlassBox x = pair();
        Due.habit(x, "say");
        Due.read(x, 0, 1, 2, 3);
        Due.due("empty", x.count(4), 0);
        for (int bad : new int[] {-1, 2, 15, 16, MIN, MAX}) {
            Due.due("SENTENCE " + bad, Due.read(x, bad, 255), NONE);
            Due.due("empty too", x.count(4), 0);
        }
        x.weigh(0, 0, 0);
        Due.due("no WEIGHT of who speaks", Due.read(x, 0, 1, 1, 1, 4), NONE);
        Due.due("the other, alone: FIXED", Due.read(x, 1, 1, 1, 1, 4), 1);
        x.who(1);
        Due.due("another has one", Due.read(x, 0, 0, 1, 1, 1, 4), 1);
        Due.due("status is another's", x.status(), 0);
    }

    // ---- PARTING

    private static void partingMost() {
        Due.says("PARTING: the SENTENCE for which most pairs of TEXTS do otherwise, of alike ones the first");
        GlassBox x = pair();
        Due.habit(x, "say");
        Due.habit(x, "drop");
        Due.due("both", x.parting(0), 0);
        Due.due("one pair", x.parting(1), 1);
        Due.habit(x, "say");
        Due.due("two pairs", x.parting(1), 2);
        Due.habit(x, "guess");
        Due.due("five pairs", x.parting(1), 5);
        Due.due("the first", x.parting(0), 0);
        Due.habit(x, "guess;mend");
        Due.due("in the second it is MENDED", x.parting(0), 1);
        Due.due("all pairs but one", x.parting(1), 9);
        Due.habit(x, "wait");
        Due.habit(x, "drop if done=0");
        Due.habit(x, "drop if done<2");
        Due.due("all of 28 but one", x.parting(1), 27);
        Due.due("the second", x.parting(0), 1);
        x.weigh(1, 0, 0);
        Due.due("it has no WEIGHT", x.parting(0), 0);
        Due.says("PARTING: MOVES that are more or fewer are otherwise");
        GlassBox y = pair();
        Due.habit(y, "wait if second<1");
        Due.habit(y, "wait if second<2");
        Due.due("a WAIT more", y.parting(1), 1);
        Due.says("PARTING: 28 pairs of 8 TEXTS");
        GlassBox z = new GlassBox();
        Due.sentence(z, 0, 0, 0, 1, 2, 3, 4, 5, 6, 7, 8);
        for (int i = 0; i < 8; i++) {
            Due.habit(z, "wait if second<" + (i + 1));
        }
        Due.due("28", z.parting(1), 28);
        Due.due("of SENTENCE 0", z.parting(0), 0);
    }

    private static void partingNone() {
        Due.says("parting: NONE (no pair, too).");
        GlassBox x = new GlassBox();
        Due.due("nothing", x.parting(0), NONE);
        Due.habit(x, "say");
        Due.habit(x, "drop");
        Due.due("no SENTENCES", x.parting(0), NONE);
        Due.due("no SENTENCES", x.parting(1), NONE);
        GlassBox y = pair();
        Due.due("no TEXTS", y.parting(0), NONE);
        Due.due("no TEXTS", y.parting(1), NONE);
        Due.habit(y, "say");
        Due.due("one TEXT", y.parting(0), NONE);
        Due.due("one TEXT", y.parting(1), NONE);
        Due.habit(y, "say");
        Due.due("no pair that does otherwise", y.parting(0), NONE);
        Due.due("no pair that does otherwise", y.parting(1), NONE);
        Due.habit(y, "drop");
        Due.due("two pairs", y.parting(1), 2);
        for (int bad : new int[] {-1, 2, MIN, MAX}) {
            Due.due("what " + bad, y.parting(bad), NONE);
        }
        y.weigh(0, 0, 0);
        Due.due("(with a WEIGHT of who speaks)", y.parting(0), 1);
        y.weigh(1, 0, 0);
        Due.due("none has a WEIGHT", y.parting(0), NONE);
        Due.due("none has a WEIGHT", y.parting(1), NONE);
    }

    // ---- IMAGES

    private static void imageRange() {
        Due.says("IMAGES 0, 1; image: 0; -1. back: 0. -1; -2 it was not kept.");
        GlassBox x = new GlassBox();
        Due.refused(x, "back(0)", x.back(0), -2);
        Due.refused(x, "back(1)", x.back(1), -2);
        for (int bad : new int[] {-1, 2, MIN, MAX}) {
            x.order(0);
            Due.refused(x, "image(" + bad + ")", x.image(bad), -1);
            x.order(0);
            Due.refused(x, "back(" + bad + ")", x.back(bad), -1);
        }
        Due.taken(x, "image(1)", x.image(1), 0);
        Due.refused(x, "back(0)", x.back(0), -2);
        Due.taken(x, "back(1)", x.back(1), 0);
        Due.refused(x, "back(0) still", x.back(0), -2);
        Due.taken(x, "image(0)", x.image(0), 0);
        Due.taken(x, "back(0)", x.back(0), 0);
        Due.taken(x, "back(1)", x.back(1), 0);
        Due.says("back that is REFUSED changes nothing");
        x.terms(0, 50);
        x.back(2);
        Due.due("as it was", x.terms(0, 1), 50);
    }

    private static void imageKeeps() {
        Due.says("IMAGES keep all; BACK to one all is as it was then");
        GlassBox x = pair();
        for (int w = 0; w < 30; w++) {
            x.word(w, w % 3, 1 + w % 9);
        }
        for (int what = 0; what < 9; what++) {
            x.terms(what, 20 + what);
        }
        x.order(4);
        x.who(2);
        x.opening(2, 8, 7);
        x.weigh(1, 2, 33);
        Due.habit(x, "wait");
        x.box(1, 50, 3);
        for (int m = 0; m < 60; m += 7) {
            x.tired(m, m + 1);
        }
        x.image(0);
        for (int w = 0; w < 30; w++) {
            x.word(w, w % 3, 9);
        }
        for (int what = 0; what < 9; what++) {
            x.terms(what, 0);
        }
        x.order(1);
        x.who(0);
        x.opening(2, 8, 1);
        x.weigh(1, 2, 0);
        Due.sentence(x, 7, 7, 7, 9);
        Due.habit(x, "drop");
        x.box(0, 0, 0);
        for (int m = 0; m < 60; m += 7) {
            x.tired(m, 0);
        }
        x.back(0);
        Due.due("SENTENCES", x.count(0), 2);
        Due.due("OPENINGS", x.count(1), 1);
        Due.due("TEXTS", x.count(2), 1);
        Due.due("BOXES", x.count(3), 1);
        Due.due("no third SENTENCE", x.row(2, NONE), NONE);
        Due.due("WHO", x.who(2), 2);
        Due.due("ORDER", x.order(4), 4);
        Due.due("the OPENING", x.fits(0, 1, 2), 0);
        Due.due("the TEXT waits", x.run(0, 0) >= 0 ? x.move(0) : NONE, 0);
        Due.due("no second TEXT", x.worth(1), NONE);
        Due.due("the BOX", x.chain(), 500000);
        Due.due("WEIGHT", x.weigh(1, 2, 1), 33);
        for (int w = 0; w < 30; w++) {
            Due.due("WORD " + w, x.word(w, w % 3, 1), 1 + w % 9);
        }
        for (int what = 0; what < 9; what++) {
            Due.due("TERM " + what, x.terms(what, 0), 20 + what);
        }
        for (int m = 0; m < 60; m += 7) {
            Due.due("TIRED " + m, x.tired(m, 0), m + 1);
        }
        Due.due("the place of a SENTENCE is free", Due.sentence(x, 0, 0, 0, 9), 2);
        Due.due("its VALUE is its own", x.odds(2, 1, 0, 0, 0), 1);
        Due.due("the place of a TEXT is free", Due.habit(x, "say"), 1);
        Due.due("the place of an OPENING is free", x.opening(0, 1, 1), 1);
        Due.due("the place of a BOX is free", x.box(0, 1, 1), 1);
    }

    /** What stood in the same place otherwise is told apart. */
    private static void imagesPlaceByPlace() {
        Due.says("BACK to one all is as it was then: SENTENCES, OPENINGS, TEXTS, BOXES, each in its place");
        GlassBox x = new GlassBox();
        x.image(0);
        Due.sentence(x, 3, 3, 3, 8, 8);
        x.opening(0, 255, 9);
        x.opening(0, 8, 5);
        Due.habit(x, "wait");
        Due.habit(x, "drop");
        x.box(1, 50, 0);
        x.box(0, 50, 0);
        x.image(1);
        x.back(0);
        Due.sentence(x, 4, 4, 4, 7);
        x.opening(1, 255, 1);
        x.opening(0, 16, 1);
        Due.habit(x, "drop");
        Due.habit(x, "wait");
        x.box(0, 90, 0);
        x.box(1, 90, 0);
        x.image(0);
        for (int i = 0; i < 2; i++) {
            x.back(1);
            Due.due("two WORDS", x.row(0, NONE), 2);
            Due.due("8", x.row(0, 0), 8);
            Due.due("VALUE 3", x.odds(0, 1, 0, 3, 0), 1);
            Due.due("the second OPENING", x.fits(0, 1, 0), 1);
            Due.due("none of SLOT 1", x.fits(0, 1, 1), NONE);
            Due.same("the first TEXT", Due.moves(x, 0, 0), "0 0 1 1 1 4");
            Due.same("the second TEXT", Due.moves(x, 1, 0), "3 3 3 4");
            Due.due("the BOXES", x.chain(), 250000);
            Due.due("the BOXES", x.link(0), 1);
            x.back(0);
            Due.due("one WORD", x.row(0, NONE), 1);
            Due.due("7", x.row(0, 0), 7);
            Due.due("VALUE 4", x.odds(0, 1, 0, 4, 0), 1);
            Due.due("the second OPENING", x.fits(0, 1, 0), 1);
            Due.due("the first OPENING", x.fits(0, 1, 1), 0);
            Due.same("the first TEXT", Due.moves(x, 0, 0), "3 3 3 4");
            Due.same("the second TEXT", Due.moves(x, 1, 0), "0 1 1 1 4");
            Due.due("the BOXES", x.chain(), 810000);
            Due.due("the BOXES", x.link(0), 0);
        }
    }

    private static void imageKeepsNot() {
        Due.says("IMAGES keep all but the TAPE, FAULT, the latest TABLE, MOVES, CHAIN, change-overs");
        GlassBox x = new GlassBox();
        x.image(0);
        Due.sentence(x, 1, 2, 3, 0, 1);
        Due.sentence(x, 4, 2, 3, 0, 2);
        Due.habit(x, "wait");
        x.box(0, 100, 0);
        x.best();
        x.run(0, 0);
        x.chain();
        x.relieve(61);
        Due.habit(x, "say 5");
        Due.feed(x, 7, 7, 7);
        x.back(0);
        Due.due("no SENTENCES", x.count(0), 0);
        Due.due("no TEXTS", x.count(2), 0);
        Due.due("the TAPE", x.count(4), 3);
        Due.due("FAULT", x.fault(), 4);
        Due.due("the TABLE", x.table(0, 0, 0), 0);
        Due.due("the TABLE", x.table(1, 2, 0), 1);
        Due.same("the TABLE", Due.plan(x, 1), "0 1 1 1 4");
        Due.due("MOVES", x.move(5), 4);
        Due.due("CHAIN", x.link(0), 0);
        Due.due("change-overs", x.change(0), 60);
        Due.due("the TAPE's bytes", x.sentence(0, 0, 0), 0);
        Due.due("the TAPE's bytes", x.row(0, 2), 7);
        Due.says("what is not kept is that of later, not of then");
        x.image(1);
        x.best();
        Due.habit(x, "drop");
        x.run(0, 0);
        x.relieve(1);
        x.back(1);
        Due.due("the TABLE of later", x.table(1, 0, 0), NONE);
        Due.due("the MOVES of later", x.move(0), 3);
        Due.due("the change-overs of later", x.change(NONE), 0);
        Due.due("the FAULT of later", x.fault(), NONE);
        Due.due("the TAPE of later", x.count(4), 0);
    }

    private static void imagesStay() {
        Due.says("(IMAGES stay)");
        GlassBox x = pair();
        x.terms(0, 10);
        x.image(0);
        x.terms(0, 20);
        x.image(1);
        x.terms(0, 30);
        x.back(0);
        Due.due("0", x.terms(0, 40), 10);
        x.back(0);
        Due.due("0 again", x.terms(0, 40), 10);
        x.back(1);
        Due.due("1", x.terms(0, 40), 20);
        x.back(0);
        x.weigh(0, 0, 50);
        x.word(0, 0, 5);
        x.tired(0, 5);
        Due.habit(x, "say");
        x.back(0);
        Due.due("WEIGHT", x.weigh(0, 0, 1), 1);
        Due.due("LOAD", x.word(0, 0, 1), 1);
        Due.due("TIRED", x.tired(0, 0), 0);
        Due.due("TEXTS", x.count(2), 0);
        Due.says("image: IMAGE k is kept, in place of what it was");
        x.terms(0, 60);
        x.image(0);
        x.terms(0, 0);
        x.back(0);
        Due.due("the later one", x.terms(0, 1), 60);
        x.back(1);
        Due.due("the other stays", x.terms(0, 1), 20);
    }

    // ---- count

    private static void countEdges() {
        Due.says("count: 0 SENTENCES, 1 OPENINGS, 2 TEXTS, 3 BOXES, 4 bytes of the TAPE. NONE for others.");
        GlassBox x = pair();
        for (int bad : new int[] {-1, 5, MIN, MAX}) {
            Due.due("count(" + bad + ")", x.count(bad), NONE);
        }
        x.opening(0, 1, 1);
        x.opening(0, 1, 1);
        x.opening(0, 1, 1);
        Due.habit(x, "say");
        x.box(0, 0, 0);
        x.box(0, 0, 0);
        x.box(0, 0, 0);
        x.box(0, 0, 0);
        x.feed(0, 0, 0, 0, 0);
        x.end(17);
        int[] due = {2, 3, 1, 4, 17};
        for (int what = 0; what < 5; what++) {
            Due.due("count(" + what + ")", x.count(what), due[what]);
        }
        Due.due("status", x.status(), 0);
    }
}
