import java.util.function.IntUnaryOperator;

/** What the tests of edges share: the sentence of the document that is tested, and what is due. */
final class Due {
    static final int NONE = GlassBox.NONE;
    static final int MIN = Integer.MIN_VALUE;
    static final int MAX = Integer.MAX_VALUE;
    /** An object answers no more calls than these. */
    static final int CALLS = 512;

    private static int wrong = 0;
    private static int asked = 0;
    private static String sentence = "";

    private Due() {
    }

    /** The document's own words that the checks below it belong to. */
    static void says(String words) {
        sentence = words;
    }

    static void due(String call, long got, long want) {
        asked++;
        if (got != want) {
            wrong++;
            System.out.println("\"" + sentence + "\": " + call + " answered " + got + ", due is " + want);
        }
    }

    static void same(String what, String got, String want) {
        asked++;
        if (!got.equals(want)) {
            wrong++;
            System.out.println("\"" + sentence + "\": " + what + " is " + got + ", due is " + want);
        }
    }

    /** A call that is REFUSED, or not: what it answers, and status behind it. */
    static void refused(GlassBox x, String call, int got, int want) {
        due(call, got, want);
        due("status behind " + call, x.status(), want);
    }

    static void taken(GlassBox x, String call, int got, int want) {
        due(call, got, want);
        due("status behind " + call, x.status(), 0);
    }

    /** A number that is set, from its first one on: just within and just outside its range; it is as at first then. */
    static void range(GlassBox x, String name, IntUnaryOperator set, int first, int least, int most) {
        taken(x, name + " to its most", set.applyAsInt(most), first);
        taken(x, name + " to its least", set.applyAsInt(least), most);
        for (int bad : new int[] {least - 1, most + 1, MIN, MAX}) {
            refused(x, name + " to " + bad, set.applyAsInt(bad), -1);
        }
        taken(x, name + ", still its least", set.applyAsInt(first), least);
    }

    static void end(String name) {
        System.out.println(wrong == 0 ? name + ": " + asked + " answers are as due" : name + ": " + wrong + " answers are not as due");
        if (wrong != 0) {
            System.exit(1);
        }
    }

    // ---- calls that belong together

    static void feed(GlassBox x, int... bytes) {
        for (int i = 0; i < bytes.length || i == 0; i += 20) {
            int[] n = new int[5];
            for (int j = 0; j < 20; j++) {
                n[j / 4] = n[j / 4] << 8 | (i + j < bytes.length ? bytes[i + j] & 255 : 0);
            }
            x.feed(n[0], n[1], n[2], n[3], n[4]);
        }
        x.end(bytes.length);
    }

    static void feedText(GlassBox x, String text) {
        if (text.length() > 400) {
            throw new IllegalArgumentException("no TAPE is so long");
        }
        int[] bytes = new int[text.length()];
        for (int i = 0; i < bytes.length; i++) {
            bytes[i] = text.charAt(i);
        }
        feed(x, bytes);
    }

    static int habit(GlassBox x, String text) {
        feedText(x, text);
        return x.habit();
    }

    static int sentence(GlassBox x, int a, int b, int c, int... row) {
        feed(x, row);
        return x.sentence(a, b, c);
    }

    static int read(GlassBox x, int sentence, int... moves) {
        feed(x, moves);
        return x.read(sentence);
    }

    static String times(int n, String text) {
        return text.repeat(n);
    }

    /** The MOVES by the latest TABLE. */
    static String plan(GlassBox x, int sentence) {
        StringBuilder moves = new StringBuilder();
        for (int t = 0; t < 14; t++) {
            int move = x.plan(sentence, t);
            if (move != NONE) {
                moves.append(t == 0 ? "" : " ").append(move);
            }
        }
        return moves.toString();
    }

    /** The MOVES of a HABIT. */
    static String moves(GlassBox x, int text, int sentence) {
        StringBuilder moves = new StringBuilder();
        x.run(text, sentence);
        for (int t = 0; t < 14; t++) {
            int move = x.move(t);
            if (move != NONE) {
                moves.append(t == 0 ? "" : " ").append(move);
            }
        }
        return moves.toString();
    }
}
