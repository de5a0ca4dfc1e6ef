import java.util.List;

/**
 * Every call with every odd number in every place, on an empty, an ordinary and a full object: none throws, what is
 * REFUSED or NONE changes nothing, and the 512th call of an object is answered as the first ones are.
 */
public final class EdgesOfCalls {
    private static final int NONE = Due.NONE;
    private static final int MIN = Due.MIN;
    private static final int MAX = Due.MAX;
    /** Outside every range of the document. */
    private static final int[] ODD = {MIN, MIN + 1, -65536, -1000, -256, -128, -8, -2, 1111, 1112, 65536, 1 << 30, MAX - 1, MAX};

    private interface Call {
        long on(GlassBox x, int[] a);
    }

    /** A call, numbers with which it is well, and what it answers where one of them can't be. */
    private record Kind(String name, Call call, boolean refuses, int... well) {
    }

    private static final List<Kind> KINDS = List.of(
        new Kind("word", (x, a) -> x.word(a[0], a[1], a[2]), true, 3, 1, 7),
        new Kind("terms", (x, a) -> x.terms(a[0], a[1]), true, 2, 50),
        new Kind("order", (x, a) -> x.order(a[0]), true, 4),
        new Kind("opening", (x, a) -> x.opening(a[0], a[1], a[2]), true, 1, 6, 3),
        new Kind("who", (x, a) -> x.who(a[0]), true, 2),
        new Kind("weigh", (x, a) -> x.weigh(a[0], a[1], a[2]), true, 0, 2, 7),
        new Kind("box", (x, a) -> x.box(a[0], a[1], a[2]), true, 10, 90, 100),
        new Kind("tired", (x, a) -> x.tired(a[0], a[1]), true, 5, 5),
        new Kind("image", (x, a) -> x.image(a[0]), true, 1),
        new Kind("back", (x, a) -> x.back(a[0]), true, 1),
        new Kind("row", (x, a) -> x.row(a[0], a[1]), false, 0, 0),
        new Kind("fixed", (x, a) -> x.fixed(a[0], a[1]), false, 0, 0),
        new Kind("odds", (x, a) -> x.odds(a[0], a[1], a[2], a[3], a[4]), false, 0, 1, 0, 1, 0),
        new Kind("fits", (x, a) -> x.fits(a[0], a[1], a[2]), false, 0, 1, 0),
        new Kind("table", (x, a) -> x.table(a[0], a[1], a[2]), false, 0, 0, 0),
        new Kind("plan", (x, a) -> x.plan(a[0], a[1]), false, 0, 0),
        new Kind("end", (x, a) -> x.end(a[0]), false, 0),
        new Kind("run", (x, a) -> x.run(a[0], a[1]), false, 0, 0),
        new Kind("move", (x, a) -> x.move(a[0]), false, 0),
        new Kind("worth", (x, a) -> x.worth(a[0]), false, 0),
        new Kind("write", (x, a) -> x.write(a[0]), false, 0),
        new Kind("link", (x, a) -> x.link(a[0]), false, 0),
        new Kind("relieve", (x, a) -> x.relieve(a[0]), false, 10),
        new Kind("change", (x, a) -> x.change(a[0]), false, 0),
        new Kind("glossary", (x, a) -> x.glossary(a[0], a[1]), false, 10, 0),
        new Kind("whose", (x, a) -> x.whose(a[0], a[1], a[2], a[3], a[4]), false, 0, 0, 0, 1, 1),
        new Kind("parting", (x, a) -> x.parting(a[0]), false, 0),
        new Kind("count", (x, a) -> x.count(a[0]), false, 0));

    public static void main(String[] args) {
        for (Kind kind : KINDS) {
            for (int state = 0; state < 3; state++) {
                oddNumbers(kind, state);
            }
        }
        oddSentences();
        oddReads();
        oddFeeds();
        fiveHundredAndTwelve();
        Due.end("EdgesOfCalls");
    }

    /** 0 empty, 1 ordinary, 2 full. */
    private static GlassBox made(int state) {
        GlassBox x = new GlassBox();
        if (state == 0) {
            return x;
        }
        for (int s = 0; s < (state == 1 ? 2 : 16); s++) {
            Due.sentence(x, s % 8, s / 2, 1, 0, s, 5, 6, 7, 8, 9, 10);
        }
        for (int i = 0; i < (state == 1 ? 2 : 12); i++) {
            x.opening(i % 3, 255, 1 + i % 9);
        }
        for (int i = 0; i < (state == 1 ? 2 : 8); i++) {
            Due.habit(x, i % 2 == 0 ? "guess;mend;say" : "drop if second>" + i);
        }
        for (int i = 0; i < (state == 1 ? 2 : 6); i++) {
            x.box(10 * i, 50 + i, 100);
        }
        x.image(1);
        x.weigh(0, 0, 5);
        x.best();
        x.run(0, 1);
        x.chain();
        x.relieve(100);
        for (int i = 0; i < (state == 1 ? 3 : 20); i++) {
            x.feed(0x01020304, 0, 0, 0, 0);
        }
        return x;
    }

    /** What can be seen of an object; it is used up by that. */
    private static String seen(GlassBox x) {
        StringBuilder all = new StringBuilder();
        for (int what = 0; what < 5; what++) {
            all.append(x.count(what)).append(' ');
        }
        all.append("fault ").append(x.fault()).append(" table ");
        for (int t = 0; t < 9; t++) {
            all.append(x.plan(0, t)).append(' ').append(x.plan(1, t)).append(' ');
        }
        all.append("moves ");
        for (int t = 0; t < 12; t++) {
            all.append(x.move(t)).append(' ');
        }
        all.append("links ");
        for (int i = 0; i < 6; i++) {
            all.append(x.link(i)).append(' ');
        }
        all.append("changes ").append(x.change(NONE)).append(' ').append(x.change(0)).append(" numbers ");
        for (int w = 0; w < 30; w += 3) {
            all.append(x.word(w, 0, 1)).append(x.word(w, 1, 1)).append(x.word(w, 2, 1)).append(' ');
        }
        for (int what = 0; what < 9; what++) {
            all.append(x.terms(what, 0)).append(' ');
        }
        for (int m = 0; m < 60; m += 5) {
            all.append(x.tired(m, 0)).append(' ');
        }
        all.append("order ").append(x.order(0)).append(" who ").append(x.who(0)).append(" weights ");
        for (int s = 0; s < 16; s += 3) {
            all.append(x.weigh(s, 0, 1)).append(' ').append(x.weigh(s, 2, 1)).append(' ').append(x.row(s, 1)).append(' ');
        }
        all.append("chain ").append(x.chain()).append(" image ").append(x.back(0)).append(' ').append(x.back(1));
        all.append(' ').append(x.weigh(0, 0, 1)).append(" tape ").append(x.sentence(0, 0, 0));
        return all.toString();
    }

    private static void oddNumbers(Kind kind, int state) {
        Due.says(kind.name + ": a number that can't be, on an object that is " + (state == 0 ? "empty" : state == 1 ? "ordinary" : "full"));
        String before = seen(made(state));
        for (int place = 0; place < kind.well.length; place++) {
            for (int odd : ODD) {
                GlassBox x = made(state);
                int status = x.status();
                int[] numbers = kind.well.clone();
                numbers[place] = odd;
                String call = kind.name + " with " + odd + " in place " + place;
                Due.due(call, kind.call.on(x, numbers), -1);
                Due.due("status behind " + call, x.status(), kind.refuses ? -1 : status);
                Due.same("all behind " + call, seen(x), before);
            }
        }
        GlassBox x = made(state);
        kind.call.on(x, kind.well);
        int[] all = new int[kind.well.length];
        for (int odd : ODD) {
            java.util.Arrays.fill(all, odd);
            Due.due(kind.name + " with " + odd + " everywhere", kind.call.on(x, all), -1);
        }
    }

    private static void oddSentences() {
        Due.says("sentence: -1 a VALUE");
        for (int state = 0; state < 3; state++) {
            GlassBox empty = made(state);
            empty.end(0);
            String before = seen(empty);
            for (int place = 0; place < 3; place++) {
                for (int odd : ODD) {
                    GlassBox x = made(state);
                    x.end(0);
                    int[] v = {0, 0, 0};
                    v[place] = odd;
                    Due.refused(x, "sentence with " + odd, x.sentence(v[0], v[1], v[2]), -1);
                    Due.same("all behind it", seen(x), before);
                }
            }
        }
    }

    private static void oddReads() {
        Due.says("read: NONE");
        for (int state = 0; state < 3; state++) {
            GlassBox empty = made(state);
            empty.end(0);
            String before = seen(empty);
            for (int odd : ODD) {
                GlassBox x = made(state);
                int status = x.status();
                Due.due("read(" + odd + ")", x.read(odd), NONE);
                Due.due("status", x.status(), status);
                Due.same("all but the TAPE behind it", seen(x), before);
            }
        }
    }

    private static void oddFeeds() {
        Due.says("feed: four bytes of each number, whichever it is");
        for (int odd : ODD) {
            GlassBox x = new GlassBox();
            for (int i = 1; i <= 20; i++) {
                Due.due("feed(" + odd + ", ..)", x.feed(odd, odd, odd, odd, odd), 20 * i);
            }
            Due.due("one more", x.feed(odd, odd, odd, odd, odd), NONE);
            Due.due("400 bytes", x.habit(), -6);
            int first = odd >>> 24;
            Due.due("the first that is no blank", x.fault(), first == ' ' ? 1 : 0);
        }
    }

    private static void fiveHundredAndTwelve() {
        Due.says("An object is used for at most 512 calls after it has been made");
        GlassBox x = new GlassBox();
        Due.sentence(x, 1, 2, 3, 0, 1);
        Due.sentence(x, 4, 2, 3, 0, 2);
        x.weigh(0, 0, 100);
        x.image(0);
        int calls = 8;
        while (calls <= Due.CALLS - 23) {
            Due.due("feed", x.feed(0x73617920, 0x20202020, 0x20202020, 0x20202020, 0x20202020), 20);
            Due.due("habit", x.habit(), 0);
            Due.due("LEAST", x.best(), 106);
            Due.due("the TABLE", x.table(0, 0, 0), 11);
            Due.due("GUESSING", x.guessing(), 96);
            Due.due("WRITE", x.write(NONE), NONE);
            Due.due("WORTH", x.worth(0), 202);
            Due.due("LOSS", x.run(0, 1), 2);
            Due.due("a MOVE", x.move(0), 0);
            Due.due("PARTING", x.parting(0), NONE);
            Due.due("READ", x.read(0), 0);
            Due.due("BOX", x.box(0, 50, 0), 0);
            Due.due("CHAIN", x.chain(), 500000);
            Due.due("RELIEVED", x.relieve(120), 5);
            Due.due("GLOSSARY", x.glossary(240, 0), 0);
            Due.due("BACK", x.back(0), 0);
            calls += 16;
        }
        while (calls < Due.CALLS - 1) {
            Due.due("status", x.status(), 0);
            calls++;
        }
        Due.due("the 512th call", x.best(), 106);
    }
}
