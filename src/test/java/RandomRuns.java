import java.math.BigInteger;
import java.util.ArrayDeque;
import java.util.ArrayList;
import java.util.Arrays;
import java.util.Deque;
import java.util.HashMap;
import java.util.List;
import java.util.Map;
import java.util.Random;
import java.util.TreeSet;

/**
 * Random runs of calls on GlassBox and on a slow second writing of the document (Model, below), which are to answer
 * alike. The seeds are fixed, so that every run of this test is the same one.
 */
public final class RandomRuns {
    private static int wrong = 0;
    private static final Map<String, Integer> ASKED = new HashMap<>();
    private static final Map<String, TreeSet<Long>> ANSWERS = new HashMap<>();

    public static void main(String[] args) {
        int from = args.length > 0 ? Integer.parseInt(args[0]) : 0;
        int to = args.length > 1 ? Integer.parseInt(args[1]) : 700;
        for (int seed = from; seed < to && wrong < 10; seed++) {
            new Run(seed).go();
        }
        checkSpread();
        System.out.println(wrong == 0 ? "all answers are alike" : wrong + " answers are not alike");
        if (wrong != 0) {
            System.exit(1);
        }
    }

    /** A test that never sees an answer other than NONE tests little. */
    private static void checkSpread() {
        for (String name : ASKED.keySet()) {
            TreeSet<Long> seen = ANSWERS.get(name);
            if (ASKED.get(name) > 200 && seen.size() < 2) {
                System.out.println(name + " always answered " + seen);
                wrong++;
            }
        }
    }

    private static void tell(int seed, List<String> calls, String call, long got, long want) {
        wrong++;
        System.out.println("seed " + seed + ", call " + calls.size() + ": " + call + " answered " + got + ", due is " + want);
        int start = Math.max(0, calls.size() - 60);
        System.out.println("  behind " + calls.subList(start, calls.size()));
    }

    private static final class Run {
        final int seed;
        final Random random;
        final GlassBox box = new GlassBox();
        final Model model = new Model();
        final List<String> calls = new ArrayList<>();
        final int alphabet;
        final int sentencesWanted;
        boolean well = true;

        Run(int seed) {
            this.seed = seed;
            random = new Random(seed);
            alphabet = seed % 80 == 0 ? 30 : 1 + random.nextInt(random.nextBoolean() ? 3 : 30);
            sentencesWanted = seed % 40 == 0 ? 16 : 1 + random.nextInt(6);
        }

        boolean chance(int percent) {
            return random.nextInt(100) < percent;
        }

        /** Mostly within the bounds, now and then at or beyond them. */
        int number(int least, int most) {
            if (chance(94)) {
                return least + random.nextInt(most - least + 1);
            }
            int[] odd = {least - 1, most + 1, least, most, -1, Integer.MIN_VALUE, Integer.MAX_VALUE, -2};
            return odd[random.nextInt(odd.length)];
        }

        void same(String name, long got, long want, int... args) {
            StringBuilder call = new StringBuilder(name).append('(');
            for (int i = 0; i < args.length; i++) {
                call.append(i == 0 ? "" : ", ").append(args[i]);
            }
            call.append(')');
            ASKED.merge(name, 1, Integer::sum);
            ANSWERS.computeIfAbsent(name, k -> new TreeSet<>()).add(got);
            if (got != want) {
                tell(seed, calls, call.toString(), got, want);
                well = false;
            }
            calls.add(call.toString());
        }

        void go() {
            for (int i = 0; i < sentencesWanted && well; i++) {
                addSentence();
            }
            for (int i = random.nextInt(60); i > 0 && well; i--) {
                setSomething();
            }
            int most = seed % 40 == 0 ? 180 : 500;
            while (well && calls.size() < most) {
                step();
                same("status", box.status(), model.status());
            }
        }

        void step() {
            int pick = random.nextInt(100);
            if (pick < 12) {
                setSomething();
            } else if (pick < 18) {
                if (model.sentences.size() < sentencesWanted || chance(10)) {
                    addSentence();
                } else {
                    weighSomething();
                }
            } else if (pick < 28) {
                addHabit();
            } else if (pick < 48) {
                askSentences();
            } else if (pick < 66) {
                askTable();
            } else if (pick < 84) {
                askHabits();
            } else if (pick < 96) {
                askOthers();
            } else {
                keepOrGoBack();
            }
        }

        void feedBytes(List<Integer> bytes) {
            for (int i = 0; i < bytes.size(); i += 20) {
                int[] n = new int[5];
                for (int j = 0; j < 20; j++) {
                    int b = i + j < bytes.size() ? bytes.get(i + j) : random.nextInt(256);
                    n[j / 4] = n[j / 4] << 8 | b;
                }
                same("feed", box.feed(n[0], n[1], n[2], n[3], n[4]), model.feed(n[0], n[1], n[2], n[3], n[4]), n);
            }
            int length = chance(98) ? bytes.size() : number(0, 400);
            same("end", box.end(length), model.end(length), length);
            same("count", box.count(4), model.count(4), 4);
        }

        void clearTape() {
            if (chance(97)) {
                same("end", box.end(0), model.end(0), 0);
            }
        }

        void addSentence() {
            List<Integer> row = new ArrayList<>();
            if (!model.sentences.isEmpty() && chance(75)) {
                List<Integer> like = model.sentences.get(random.nextInt(model.sentences.size())).row;
                row.addAll(like.subList(0, random.nextInt(like.size() + 1)));
            }
            int length = chance(97) ? 1 + random.nextInt(8) : random.nextInt(11);
            while (row.size() < length) {
                row.add(chance(99) ? random.nextInt(alphabet) : random.nextInt(256));
            }
            clearTape();
            feedBytes(row);
            int few = chance(70) ? 2 : 7;
            int a = chance(60) ? random.nextInt(few + 1) : number(0, 7);
            int b = chance(60) ? random.nextInt(few + 1) : number(0, 7);
            int c = chance(60) ? random.nextInt(few + 1) : number(0, 7);
            same("sentence", box.sentence(a, b, c), model.sentence(a, b, c), a, b, c);
            same("count", box.count(4), model.count(4), 4);
            same("count", box.count(0), model.count(0), 0);
            if (chance(70)) {
                weighSomething();
            }
        }

        void weighSomething() {
            int s = number(0, Math.max(model.sentences.size() - 1, 0));
            int who = chance(70) ? model.who : number(0, 3);
            int weight = chance(15) ? 0 : chance(40) ? 1 + random.nextInt(3) : number(0, 100);
            same("weigh", box.weigh(s, who, weight), model.weigh(s, who, weight), s, who, weight);
        }

        void setSomething() {
            int[] most = {60, 60, 100, 100, 1000, 1000, 1000, 100, 1000};
            switch (random.nextInt(9)) {
                case 0:
                case 8: {
                    int w = chance(80) ? random.nextInt(alphabet) : number(0, 29);
                    int what = chance(60) ? 0 : number(0, 2);
                    int value = number(what == 1 ? 1 : 0, what == 1 ? 60 : 9);
                    same("word", box.word(w, what, value), model.word(w, what, value), w, what, value);
                    break;
                }
                case 1:
                case 2: {
                    int what = number(0, 8);
                    int value = what < 0 || what > 8 ? 1 : chance(60) ? random.nextInt(6) : number(0, most[what]);
                    same("terms", box.terms(what, value), model.terms(what, value), what, value);
                    break;
                }
                case 3: {
                    int o = number(0, 5);
                    same("order", box.order(o), model.order(o), o);
                    break;
                }
                case 4: {
                    int slot = number(0, 2);
                    int values = chance(50) ? 255 - (1 << random.nextInt(8)) : number(1, 255);
                    int length = number(1, 9);
                    same("opening", box.opening(slot, values, length), model.opening(slot, values, length), slot, values, length);
                    break;
                }
                case 5: {
                    int who = chance(60) ? 0 : number(0, 3);
                    same("who", box.who(who), model.who(who), who);
                    break;
                }
                case 6: {
                    int lag = number(0, 60);
                    int keeps = number(0, 100);
                    int limit = chance(70) ? random.nextInt(100) : number(0, 300);
                    same("box", box.box(lag, keeps, limit), model.box(lag, keeps, limit), lag, keeps, limit);
                    break;
                }
                default: {
                    int minute = chance(60) ? random.nextInt(8) : number(0, 59);
                    int cost = chance(70) ? random.nextInt(8) : number(0, 1000);
                    same("tired", box.tired(minute, cost), model.tired(minute, cost), minute, cost);
                    break;
                }
            }
        }

        void addHabit() {
            clearTape();
            String text = new TextMaker(random).text();
            List<Integer> bytes = new ArrayList<>();
            for (int i = 0; i < text.length() && i < 400; i++) {
                bytes.add((int) text.charAt(i));
            }
            if (chance(12) && !bytes.isEmpty()) {
                bytes.set(random.nextInt(bytes.size()), random.nextInt(256));
            }
            feedBytes(bytes);
            same("habit", box.habit(), model.habit());
            same("fault", box.fault(), model.fault());
            same("count", box.count(4), model.count(4), 4);
            same("count", box.count(2), model.count(2), 2);
        }

        int someSentence() {
            return number(0, Math.max(model.sentences.size() - 1, 0));
        }

        int someText() {
            return number(0, Math.max(model.texts.size() - 1, 0));
        }

        void askSentences() {
            int s = someSentence();
            int slot = number(0, 2);
            switch (random.nextInt(5)) {
                case 0: {
                    int i = number(-1, 8);
                    same("row", box.row(s, i), model.row(s, i), s, i);
                    break;
                }
                case 1:
                    same("fixed", box.fixed(s, slot), model.fixed(s, slot), s, slot);
                    break;
                case 2:
                case 3: {
                    int n = number(0, 8);
                    int value = chance(60) ? random.nextInt(3) : number(0, 7);
                    same("odds", box.odds(s, n, slot, value, 0), model.odds(s, n, slot, value, 0), s, n, slot, value, 0);
                    int part = number(1, 1);
                    same("odds", box.odds(s, n, slot, value, part), model.odds(s, n, slot, value, part), s, n, slot, value, part);
                    break;
                }
                default: {
                    int n = number(1, 8);
                    same("fits", box.fits(s, n, slot), model.fits(s, n, slot), s, n, slot);
                    break;
                }
            }
        }

        void askTable() {
            if (chance(25)) {
                long least = box.best();
                same("best", least, model.best());
                for (int text = 0; text < model.texts.size(); text++) {
                    if (box.worth(text) < least) {
                        tell(seed, calls, "worth(" + text + ") is below best()", box.worth(text), least);
                        well = false;
                    }
                }
            }
            if (chance(6)) {
                same("guessing", box.guessing(), model.guessing());
                int w = chance(80) ? random.nextInt(alphabet) : number(0, 29);
                same("write", box.write(w), model.write(w), w);
            }
            if (chance(2)) {
                same("write", box.write(-1), model.write(-1), -1);
            }
            for (int i = 0; i < 4; i++) {
                int s = someSentence();
                int second = number(0, 9);
                int said = number(0, 1110);
                same("table", box.table(s, second, said), model.table(s, second, said), s, second, said);
            }
            int s = someSentence();
            for (int second = -1; second < 13; second++) {
                same("plan", box.plan(s, second), model.plan(s, second), s, second);
            }
        }

        void askHabits() {
            int text = someText();
            int s = someSentence();
            switch (random.nextInt(6)) {
                case 0:
                case 1:
                    same("run", box.run(text, s), model.run(text, s), text, s);
                    for (int second = -1; second < 13; second++) {
                        same("move", box.move(second), model.move(second), second);
                    }
                    break;
                case 2:
                    same("worth", box.worth(text), model.worth(text), text);
                    break;
                case 3: {
                    int slot = number(0, 2);
                    int meant = number(0, 7);
                    int third = number(0, 7);
                    same("whose", box.whose(text, s, slot, meant, third), model.whose(text, s, slot, meant, third),
                        text, s, slot, meant, third);
                    break;
                }
                case 4: {
                    List<Integer> heard = new ArrayList<>(model.movesOf(text, s));
                    for (int i = 0; i < heard.size(); i++) {
                        if (chance(30)) {
                            heard.set(i, 255);
                        } else if (chance(3)) {
                            heard.set(i, random.nextInt(256));
                        }
                    }
                    if (chance(5)) {
                        heard.add(random.nextBoolean() ? 255 : 4);
                    }
                    clearTape();
                    feedBytes(heard);
                    same("read", box.read(s), model.read(s), s);
                    same("count", box.count(4), model.count(4), 4);
                    break;
                }
                default: {
                    same("parting", box.parting(0), model.parting(0), 0);
                    int what = number(1, 1);
                    same("parting", box.parting(what), model.parting(what), what);
                    break;
                }
            }
        }

        void askOthers() {
            switch (random.nextInt(4)) {
                case 0:
                    if (chance(50)) {
                        same("chain", box.chain(), model.chain());
                    }
                    for (int i = -1; i < 7; i++) {
                        same("link", box.link(i), model.link(i), i);
                    }
                    break;
                case 1: {
                    if (chance(70)) {
                        int minutes = number(1, 120);
                        same("relieve", box.relieve(minutes), model.relieve(minutes), minutes);
                    }
                    for (int i = -2; i < 6; i++) {
                        same("change", box.change(i), model.change(i), i);
                    }
                    break;
                }
                case 2: {
                    int minutes = chance(50) ? random.nextInt(60) : number(0, 240);
                    same("glossary", box.glossary(minutes, 0), model.glossary(minutes, 0), minutes, 0);
                    int what = number(1, 1);
                    same("glossary", box.glossary(minutes, what), model.glossary(minutes, what), minutes, what);
                    break;
                }
                default: {
                    int what = number(0, 4);
                    same("count", box.count(what), model.count(what), what);
                    break;
                }
            }
        }

        void keepOrGoBack() {
            int k = number(0, 1);
            if (chance(50)) {
                same("image", box.image(k), model.image(k), k);
            } else {
                same("back", box.back(k), model.back(k), k);
            }
        }
    }

    /** Texts by the grammar of the document, now and then with a slip. */
    private static final class TextMaker {
        private final Random random;

        TextMaker(Random random) {
            this.random = random;
        }

        private String one(String... of) {
            return of[random.nextInt(of.length)];
        }

        String text() {
            StringBuilder text = new StringBuilder();
            int clauses = random.nextInt(20) == 0 ? 10 + random.nextInt(5) : 1 + random.nextInt(4);
            for (int i = 0; i < clauses; i++) {
                text.append(i == 0 ? "" : one(";", " ; ", "; ")).append(one("wait", "say", "open", "drop", "guess", "mend"));
                if (random.nextInt(4) > 0) {
                    text.append(" if ").append(test(random.nextInt(12) == 0 ? 9 : 2));
                }
            }
            return one("", "", " ", "   ") + text + one("", "", "", " ");
        }

        private String test(int depth) {
            String made = both(depth);
            while (random.nextInt(4) == 0) {
                made += " or " + both(depth);
            }
            return made;
        }

        private String both(int depth) {
            String made = plain(depth);
            while (random.nextInt(4) == 0) {
                made += " and " + plain(depth);
            }
            return made;
        }

        private String plain(int depth) {
            int pick = random.nextInt(depth > 3 ? 4 : 10);
            if (pick < 3 && depth > 0) {
                return "(" + test(depth - 1) + ")";
            }
            switch (pick) {
                case 3:
                case 4:
                    return "not " + plain(depth);
                case 5:
                    return "known";
                case 6:
                    return "over";
                default:
                    return sum(depth) + one("<", ">", "=", " < ", " > ", " = ") + sum(depth);
            }
        }

        private String sum(int depth) {
            String made = term(depth);
            while (random.nextInt(3) == 0) {
                made += one("+", "-", " + ", " - ") + term(depth);
            }
            return made;
        }

        private String term(int depth) {
            String made = part(depth);
            while (random.nextInt(4) == 0) {
                made += one("*", "/", " * ", " / ") + part(depth);
            }
            return made;
        }

        private String part(int depth) {
            if (depth > 0 && random.nextInt(depth > 3 ? 2 : 6) == 0) {
                return "[" + sum(depth - 1) + "]";
            }
            if (random.nextInt(3) == 0) {
                return one("0", "1", "2", "3", "4", "10", "50", "60", "100", "100000", "007", random.nextInt(60) == 0 ? "100001" : "5");
            }
            return one("held", "head", "done", "likely", "left", "second", "who", "wrong", "load");
        }
    }

    // ------------------------------------------------------------------------------------------------------------

    /** The document once more, without any care for speed. */
    private static final class Model {
        static final int NONE = -1;
        static final int[][] ORDERS = {{0, 1, 2}, {0, 2, 1}, {1, 0, 2}, {1, 2, 0}, {2, 0, 1}, {2, 1, 0}};

        static final class Sentence {
            List<Integer> row = new ArrayList<>();
            int[] values = new int[3];
            int[] weights = {1, 1, 1, 1};

            Sentence copy() {
                Sentence c = new Sentence();
                c.row = new ArrayList<>(row);
                c.values = values.clone();
                c.weights = weights.clone();
                return c;
            }
        }

        int[][] words = new int[30][];
        int[] terms = {6, 3, 1, 1, 20, 10, 4, 2, 5};
        int order = 0;
        int who = 0;
        List<int[]> openings = new ArrayList<>();
        List<Sentence> sentences = new ArrayList<>();
        List<Text> texts = new ArrayList<>();
        List<int[]> boxes = new ArrayList<>();
        int[] tired = new int[60];

        Model[] images = new Model[2];
        List<Integer> tape = new ArrayList<>();
        int fault = NONE;
        int status = 0;
        Model tableOf = null;
        List<Integer> moves = new ArrayList<>();
        int[] chain = new int[0];
        List<Integer> changes = null;
        boolean noGuess = false;
        Map<String, Long> memo = new HashMap<>();

        Model() {
            for (int i = 0; i < 30; i++) {
                words[i] = new int[] {1, 5, 0};
            }
        }

        Model copy() {
            Model c = new Model();
            c.take(this);
            return c;
        }

        void take(Model m) {
            for (int i = 0; i < 30; i++) {
                words[i] = m.words[i].clone();
            }
            terms = m.terms.clone();
            order = m.order;
            who = m.who;
            openings = new ArrayList<>(m.openings);
            sentences = new ArrayList<>();
            for (Sentence s : m.sentences) {
                sentences.add(s.copy());
            }
            texts = new ArrayList<>(m.texts);
            boxes = new ArrayList<>(m.boxes);
            tired = m.tired.clone();
        }

        int no(int why) {
            status = why;
            return why;
        }

        int yes(int answer) {
            status = 0;
            return answer;
        }

        static boolean in(int n, int least, int most) {
            return n >= least && n <= most;
        }

        int word(int word, int what, int value) {
            if (!in(word, 0, 29) || !in(what, 0, 2) || !in(value, what == 1 ? 1 : 0, what == 1 ? 60 : 9)) {
                return no(-1);
            }
            int was = words[word][what];
            words[word][what] = value;
            return yes(was);
        }

        int terms(int what, int value) {
            if (!in(what, 0, 8)) {
                return no(-1);
            }
            int most = what <= 1 ? 60 : what <= 3 || what == 7 ? 100 : 1000;
            if (!in(value, 0, most)) {
                return no(-1);
            }
            int was = terms[what];
            terms[what] = value;
            return yes(was);
        }

        int order(int o) {
            if (!in(o, 0, 5)) {
                return no(-1);
            }
            int was = order;
            order = o;
            return yes(was);
        }

        int opening(int slot, int values, int length) {
            if (!in(slot, 0, 2) || !in(values, 1, 255) || !in(length, 1, 9)) {
                return no(-1);
            }
            if (openings.size() == 12) {
                return no(-5);
            }
            openings.add(new int[] {slot, values, length});
            return yes(openings.size() - 1);
        }

        int who(int speaker) {
            if (!in(speaker, 0, 3)) {
                return no(-1);
            }
            int was = who;
            who = speaker;
            return yes(was);
        }

        int sentence(int a, int b, int c) {
            List<Integer> row = new ArrayList<>(tape);
            tape.clear();
            if (!in(a, 0, 7) || !in(b, 0, 7) || !in(c, 0, 7)) {
                return no(-1);
            }
            if (!in(row.size(), 1, 8) || row.stream().anyMatch(w -> w > 29)) {
                return no(-6);
            }
            if (sentences.stream().anyMatch(s -> s.row.equals(row))) {
                return no(-4);
            }
            if (sentences.size() == 16) {
                return no(-5);
            }
            Sentence s = new Sentence();
            s.row = row;
            s.values = new int[] {a, b, c};
            sentences.add(s);
            return yes(sentences.size() - 1);
        }

        int weigh(int sentence, int speaker, int weight) {
            if (!in(sentence, 0, 15) || !in(speaker, 0, 3) || !in(weight, 0, 100)) {
                return no(-1);
            }
            if (sentence >= sentences.size()) {
                return no(-2);
            }
            int was = sentences.get(sentence).weights[speaker];
            sentences.get(sentence).weights[speaker] = weight;
            return yes(was);
        }

        boolean there(int s) {
            return in(s, 0, sentences.size() - 1);
        }

        int weight(Sentence s) {
            return s.weights[who];
        }

        boolean spoken(int s) {
            return there(s) && weight(sentences.get(s)) > 0;
        }

        int row(int s, int i) {
            if (!there(s)) {
                return NONE;
            }
            List<Integer> row = sentences.get(s).row;
            return i == NONE ? row.size() : in(i, 0, row.size() - 1) ? row.get(i) : NONE;
        }

        /** CAN COME. */
        List<Sentence> come(List<Integer> came, boolean over) {
            List<Sentence> all = new ArrayList<>();
            for (Sentence s : sentences) {
                boolean begins = s.row.size() >= came.size() && s.row.subList(0, came.size()).equals(came);
                if (weight(s) > 0 && begins && (!over || s.row.size() == came.size())) {
                    all.add(s);
                }
            }
            return all;
        }

        static List<Integer> first(Sentence s, int n) {
            return s.row.subList(0, Math.min(n, s.row.size()));
        }

        static TreeSet<Integer> valuesIn(List<Sentence> come, int slot) {
            TreeSet<Integer> values = new TreeSet<>();
            for (Sentence s : come) {
                values.add(s.values[slot]);
            }
            return values;
        }

        int fixed(int s, int slot) {
            if (!spoken(s) || !in(slot, 0, 2)) {
                return NONE;
            }
            Sentence it = sentences.get(s);
            for (int t = 0; ; t++) {
                if (valuesIn(come(first(it, t + 1), t >= it.row.size()), slot).size() == 1) {
                    return t;
                }
            }
        }

        int odds(int s, int n, int slot, int value, int part) {
            if (!there(s) || !in(n, 0, row(s, NONE)) || !in(slot, 0, 2) || !in(value, 0, 7) || !in(part, 0, 1)) {
                return NONE;
            }
            int all = 0;
            int some = 0;
            for (Sentence c : come(first(sentences.get(s), n), false)) {
                all += weight(c);
                some += c.values[slot] == value ? weight(c) : 0;
            }
            if (all == 0) {
                return NONE;
            }
            for (int d = all; d > 1; d--) {
                if (all % d == 0 && some % d == 0) {
                    all /= d;
                    some /= d;
                }
            }
            return part == 0 ? some : all;
        }

        int opener(List<Sentence> come, int slot) {
            int best = NONE;
            for (int i = 0; i < openings.size(); i++) {
                int[] o = openings.get(i);
                boolean all = o[0] == slot;
                for (int v : valuesIn(come, slot)) {
                    all &= (o[1] & 1 << v) != 0;
                }
                if (all && (best == NONE || o[2] < openings.get(best)[2])) {
                    best = i;
                }
            }
            return best;
        }

        int fits(int s, int n, int slot) {
            if (!there(s) || !in(n, 1, row(s, NONE)) || !in(slot, 0, 2)) {
                return NONE;
            }
            return opener(come(first(sentences.get(s), n), false), slot);
        }

        // ---- MOVES; SAID is a list of digits in ORDER

        List<Integer> legal(List<Integer> came, boolean over, List<Integer> said) {
            List<Sentence> come = come(came, over);
            List<Integer> all = new ArrayList<>();
            if (!over) {
                all.add(0);
            }
            if (said.size() < 3) {
                int slot = ORDERS[order][said.size()];
                TreeSet<Integer> values = valuesIn(come, slot);
                if (values.size() == 1) {
                    all.add(1);
                } else {
                    if (opener(come, slot) != NONE) {
                        all.add(2);
                    }
                    for (int v : values) {
                        if (!noGuess) {
                            all.add(10 + v);
                        }
                    }
                }
                all.add(3);
            } else if (over) {
                all.add(4);
            }
            for (int i = 0; i < said.size(); i++) {
                int slot = ORDERS[order][i];
                TreeSet<Integer> values = valuesIn(come, slot);
                if (said.get(i) < 8 && values.size() == 1 && !values.first().equals(said.get(i))) {
                    all.add(20 + slot);
                }
            }
            all.sort(null);
            return all;
        }

        List<Integer> behind(List<Integer> came, boolean over, List<Integer> said, int move) {
            List<Sentence> come = come(came, over);
            List<Integer> then = new ArrayList<>(said);
            if (move == 1) {
                then.add(valuesIn(come, ORDERS[order][said.size()]).first());
            } else if (move == 2) {
                then.add(8);
            } else if (move == 3) {
                then.add(9);
            } else if (move >= 20) {
                for (int i = 0; i < 3; i++) {
                    if (ORDERS[order][i] == move - 20) {
                        then.set(i, valuesIn(come, move - 20).first());
                    }
                }
            } else if (move >= 10) {
                then.add(move - 10);
            }
            return then;
        }

        /** Of one SECOND, for one SENTENCE. */
        int cost(List<Integer> came, boolean over, List<Integer> said, int move) {
            if (move == 4) {
                Sentence s = come(came, true).get(0);
                int loss = 0;
                for (int i = 0; i < 3; i++) {
                    int d = said.get(i);
                    loss += d == 9 ? terms[5] : d < 8 && d != s.values[ORDERS[order][i]] ? terms[4] : 0;
                }
                return loss;
            }
            int loss = 0;
            if (move == 2) {
                loss += terms[7] * openings.get(opener(come(came, over), ORDERS[order][said.size()]))[2];
            }
            if (move >= 20) {
                loss += terms[6];
            }
            int held = held(came, behind(came, over, said, move).size());
            return loss + terms[2] * Math.max(0, held - terms[0]) + (over ? terms[3] : 0);
        }

        int load(List<Integer> came) {
            int sum = 0;
            for (int w : came) {
                sum += words[w][0];
            }
            return sum;
        }

        int held(List<Integer> came, int done) {
            return Math.max(0, load(came) - terms[1] * done);
        }

        long ways(List<Integer> came, boolean over) {
            long sum = 0;
            for (Sentence s : come(came, over)) {
                sum += weight(s);
            }
            return sum;
        }

        /** What a MOVE and all behind it come to, over all that CAN COME. */
        long total(List<Integer> came, boolean over, List<Integer> said, int move) {
            long loss = ways(came, over) * cost(came, over, said, move);
            if (move == 4) {
                return loss;
            }
            List<Integer> then = behind(came, over, said, move);
            return loss + (over ? least(came, true, then) : rest(came, then));
        }

        /** Behind a SECOND that was not OVER: another WORD, or it is OVER. */
        long rest(List<Integer> came, List<Integer> said) {
            long loss = came.isEmpty() || come(came, true).isEmpty() ? 0 : least(came, true, said);
            TreeSet<Integer> nexts = new TreeSet<>();
            for (Sentence s : come(came, false)) {
                if (s.row.size() > came.size()) {
                    nexts.add(s.row.get(came.size()));
                }
            }
            for (int w : nexts) {
                List<Integer> longer = new ArrayList<>(came);
                longer.add(w);
                loss += least(longer, false, said);
            }
            return loss;
        }

        long least(List<Integer> came, boolean over, List<Integer> said) {
            String key = came + "|" + over + "|" + said;
            Long known = memo.get(key);
            if (known != null) {
                return known;
            }
            long best = Long.MAX_VALUE;
            for (int move : legal(came, over, said)) {
                best = Math.min(best, total(came, over, said, move));
            }
            memo.put(key, best);
            return best;
        }

        int bestMove(List<Integer> came, boolean over, List<Integer> said) {
            int found = NONE;
            long best = Long.MAX_VALUE;
            for (int move : legal(came, over, said)) {
                long loss = total(came, over, said, move);
                if (loss < best) {
                    best = loss;
                    found = move;
                }
            }
            return found;
        }

        long best() {
            tableOf = copy();
            return tableOf.rest(List.of(), List.of());
        }

        static List<Integer> digits(int said) {
            List<Integer> all = new ArrayList<>();
            if (said >= 111) {
                all.addAll(List.of((said - 111) / 100, (said - 111) / 10 % 10, (said - 111) % 10));
            } else if (said >= 11) {
                all.addAll(List.of((said - 11) / 10, (said - 11) % 10));
            } else if (said >= 1) {
                all.add(said - 1);
            }
            return all;
        }

        int table(int s, int second, int said) {
            if (tableOf == null || !tableOf.spoken(s) || !in(said, 0, 1110)) {
                return NONE;
            }
            Sentence it = tableOf.sentences.get(s);
            if (!in(second, 0, it.row.size())) {
                return NONE;
            }
            return tableOf.bestMove(first(it, second + 1), second == it.row.size(), digits(said));
        }

        int plan(int s, int second) {
            if (tableOf == null || !tableOf.spoken(s) || second < 0) {
                return NONE;
            }
            Sentence it = tableOf.sentences.get(s);
            List<Integer> said = new ArrayList<>();
            for (int t = 0; ; t++) {
                boolean over = t >= it.row.size();
                int move = tableOf.bestMove(first(it, t + 1), over, said);
                if (t == second) {
                    return move;
                }
                if (move == 4) {
                    return NONE;
                }
                said = tableOf.behind(first(it, t + 1), over, said, move);
            }
        }

        int feed(int... n) {
            if (tape.size() + 20 > 400) {
                return NONE;
            }
            for (int x : n) {
                tape.addAll(List.of(x >>> 24, x >>> 16 & 255, x >>> 8 & 255, x & 255));
            }
            return tape.size();
        }

        int end(int n) {
            if (!in(n, 0, tape.size())) {
                return NONE;
            }
            tape = new ArrayList<>(tape.subList(0, n));
            return n;
        }

        int habit() {
            List<Integer> bytes = new ArrayList<>(tape);
            tape.clear();
            if (texts.size() == 8) {
                return no(-5);
            }
            Text text = new Text(bytes);
            fault = text.fault;
            if (fault != NONE) {
                return no(-6);
            }
            texts.add(text);
            return yes(texts.size() - 1);
        }

        int fault() {
            return fault;
        }

        List<Integer> saidAtEnd;

        /** LOSS, with the MOVES put into the list. */
        int play(Text text, Sentence s, List<Integer> played) {
            int loss = 0;
            List<Integer> said = new ArrayList<>();
            for (int t = 0; ; t++) {
                boolean over = t >= s.row.size();
                List<Integer> came = first(s, t + 1);
                int move = text.move(this, came, over, said, t);
                played.add(move);
                loss += cost(came, over, said, move);
                if (move == 4) {
                    saidAtEnd = said;
                    return loss;
                }
                said = behind(came, over, said, move);
            }
        }

        List<Integer> movesOf(int text, int s) {
            List<Integer> played = new ArrayList<>();
            if (in(text, 0, texts.size() - 1) && spoken(s)) {
                play(texts.get(text), sentences.get(s), played);
            }
            return played;
        }

        int run(int text, int s) {
            if (!in(text, 0, texts.size() - 1) || !spoken(s)) {
                return NONE;
            }
            moves = new ArrayList<>();
            return play(texts.get(text), sentences.get(s), moves);
        }

        int move(int second) {
            return in(second, 0, moves.size() - 1) ? moves.get(second) : NONE;
        }

        long worth(int text) {
            if (!in(text, 0, texts.size() - 1)) {
                return NONE;
            }
            long sum = 0;
            for (Sentence s : sentences) {
                sum += weight(s) > 0 ? (long) weight(s) * play(texts.get(text), s, new ArrayList<>()) : 0;
            }
            return sum;
        }

        long guessing() {
            Model without = copy();
            without.noGuess = true;
            return without.rest(List.of(), List.of()) - copy().rest(List.of(), List.of());
        }

        long write(int word) {
            if (word == NONE) {
                int found = NONE;
                long most = 0;
                for (int w = 0; w < 30; w++) {
                    long worth = write(w);
                    if (worth > most) {
                        most = worth;
                        found = w;
                    }
                }
                return found;
            }
            if (!in(word, 0, 29)) {
                return NONE;
            }
            Model light = copy();
            light.words[word][0] = 0;
            return copy().rest(List.of(), List.of()) - light.rest(List.of(), List.of());
        }

        int box(int lag, int keeps, int limit) {
            if (!in(lag, 0, 60) || !in(keeps, 0, 100) || !in(limit, 0, 300)) {
                return no(-1);
            }
            if (boxes.size() == 6) {
                return no(-5);
            }
            boxes.add(new int[] {lag, keeps, limit});
            return yes(boxes.size() - 1);
        }

        int chain() {
            if (boxes.isEmpty()) {
                return NONE;
            }
            int n = boxes.size();
            int rows = 1;
            for (int i = 0; i < n; i++) {
                rows *= n;
            }
            int most = -1;
            for (int code = 0; code < rows; code++) {
                int[] row = new int[n];
                int rest = code;
                for (int i = n - 1; i >= 0; i--) {
                    row[i] = rest % n;
                    rest /= n;
                }
                if (Arrays.stream(row).distinct().count() == n && keptBy(row) > most) {
                    most = keptBy(row);
                    chain = row;
                }
            }
            return most;
        }

        int keptBy(int[] row) {
            int amount = 1000000;
            int lags = 0;
            for (int b : row) {
                amount = amount * boxes.get(b)[1] / 100;
                if (lags > boxes.get(b)[2]) {
                    amount /= 2;
                }
                lags += boxes.get(b)[0];
            }
            return amount;
        }

        int link(int i) {
            return in(i, 0, chain.length - 1) ? chain[i] : NONE;
        }

        int tired(int minute, int cost) {
            if (!in(minute, 0, 59) || !in(cost, 0, 1000)) {
                return no(-1);
            }
            int was = tired[minute];
            tired[minute] = cost;
            return yes(was);
        }

        /** Minute by minute, by how long who sits has sat; where both ways cost the same there is no change. */
        int relieve(int minutes) {
            if (!in(minutes, 1, 120)) {
                return NONE;
            }
            int[][] least = new int[minutes + 1][61];
            for (int m = minutes - 1; m >= 0; m--) {
                for (int sat = 60; sat >= 0; sat--) {
                    least[m][sat] = Math.min(stay(least, m, sat), anew(least, m));
                }
            }
            changes = new ArrayList<>();
            int sat = 0;
            for (int m = 0; m < minutes; m++) {
                if (m > 0 && anew(least, m) < stay(least, m, sat)) {
                    changes.add(m);
                    sat = 0;
                }
                sat++;
            }
            return stay(least, 0, 0);
        }

        int stay(int[][] least, int m, int sat) {
            return sat >= 60 ? 1 << 29 : tired[sat] + least[m + 1][sat + 1];
        }

        int anew(int[][] least, int m) {
            return terms[8] + tired[0] + least[m + 1][1];
        }

        int change(int i) {
            if (changes == null) {
                return NONE;
            }
            return i == NONE ? changes.size() : in(i, 0, changes.size() - 1) ? changes.get(i) : NONE;
        }

        /** most[w][t]: of WORDS from w on in t minutes. */
        int glossary(int minutes, int what) {
            if (!in(minutes, 0, 240) || !in(what, 0, 1)) {
                return NONE;
            }
            int[][] most = new int[31][minutes + 1];
            for (int w = 29; w >= 0; w--) {
                for (int t = 0; t <= minutes; t++) {
                    int look = words[w][1];
                    most[w][t] = Math.max(most[w + 1][t], look <= t ? saves(w) + most[w + 1][t - look] : 0);
                }
            }
            int set = 0;
            int t = minutes;
            for (int w = 0; w < 30; w++) {
                int look = words[w][1];
                if (look <= t && saves(w) + most[w + 1][t - look] == most[w][t]) {
                    set |= 1 << w;
                    t -= look;
                }
            }
            return what == 0 ? most[0][minutes] : set;
        }

        int saves(int w) {
            int sum = 0;
            for (Sentence s : sentences) {
                for (int x : s.row) {
                    sum += x == w ? weight(s) * words[w][2] : 0;
                }
            }
            return sum;
        }

        int whose(int text, int s, int slot, int meant, int third) {
            if (!in(text, 0, texts.size() - 1) || !spoken(s) || !in(slot, 0, 2) || !in(meant, 0, 7) || !in(third, 0, 7)) {
                return NONE;
            }
            play(texts.get(text), sentences.get(s), new ArrayList<>());
            int hers = NONE;
            for (int i = 0; i < 3; i++) {
                if (ORDERS[order][i] == slot && saidAtEnd.get(i) < 8) {
                    hers = saidAtEnd.get(i);
                }
            }
            int due = sentences.get(s).values[slot];
            return (meant != due ? 1 : 0) | (hers != due ? 2 : 0) | (third != hers ? 4 : 0);
        }

        int read(int s) {
            List<Integer> heard = new ArrayList<>(tape);
            tape.clear();
            if (!spoken(s)) {
                return NONE;
            }
            int bits = 0;
            for (int text = 0; text < texts.size(); text++) {
                List<Integer> played = movesOf(text, s);
                boolean alike = played.size() == heard.size();
                for (int i = 0; alike && i < heard.size(); i++) {
                    alike = heard.get(i) == 255 || heard.get(i).equals(played.get(i));
                }
                bits |= alike ? 1 << text : 0;
            }
            return bits;
        }

        int parting(int what) {
            int found = NONE;
            int most = 0;
            for (int s = 0; s < sentences.size(); s++) {
                int pairs = 0;
                for (int a = 0; a < texts.size() && spoken(s); a++) {
                    for (int b = a + 1; b < texts.size(); b++) {
                        pairs += movesOf(a, s).equals(movesOf(b, s)) ? 0 : 1;
                    }
                }
                if (pairs > most) {
                    most = pairs;
                    found = s;
                }
            }
            return found == NONE || !in(what, 0, 1) ? NONE : what == 0 ? found : most;
        }

        int image(int k) {
            if (!in(k, 0, 1)) {
                return no(-1);
            }
            images[k] = copy();
            return yes(0);
        }

        int back(int k) {
            if (!in(k, 0, 1)) {
                return no(-1);
            }
            if (images[k] == null) {
                return no(-2);
            }
            take(images[k]);
            return yes(0);
        }

        int count(int what) {
            int[] all = {sentences.size(), openings.size(), texts.size(), boxes.size(), tape.size()};
            return in(what, 0, 4) ? all[what] : NONE;
        }

        int status() {
            return status;
        }
    }

    /** A HABIT: where it is at FAULT is found by an automaton with a stack, what it says by a second reading. */
    private static final class Text {
        private static final List<String> HEADS = List.of("wait", "say", "open", "drop", "guess", "mend");
        private static final List<String> PARTS =
            List.of("held", "head", "done", "likely", "left", "second", "who", "wrong", "load");

        private static final class Broken extends RuntimeException {
            private static final long serialVersionUID = 1L;
        }

        final List<String> tokens = new ArrayList<>();
        final List<Integer> starts = new ArrayList<>();
        final int fault;

        Text(List<Integer> bytes) {
            int i = 0;
            while (i < bytes.size()) {
                int kind = kind(bytes.get(i));
                int j = i + 1;
                while (kind != 0 && kind != 3 && j < bytes.size() && kind(bytes.get(j)) == kind) {
                    j++;
                }
                if (kind != 0) {
                    StringBuilder token = new StringBuilder();
                    for (int k = i; k < j; k++) {
                        token.append((char) (int) bytes.get(k));
                    }
                    tokens.add(token.toString());
                    starts.add(i);
                }
                i = j;
            }
            tokens.add("");
            starts.add(bytes.size());
            int at = faultyToken();
            fault = at < 0 ? -1 : starts.get(at);
        }

        private static int kind(int b) {
            return b == 32 ? 0 : b >= 'a' && b <= 'z' ? 1 : b >= '0' && b <= '9' ? 2 : 3;
        }

        private int faultyToken() {
            Deque<String> open = new ArrayDeque<>();
            String state = "clause";
            boolean right = false;
            int clauses = 0;
            int parts = 0;
            for (int i = 0; i < tokens.size(); i++) {
                String t = tokens.get(i);
                boolean number = !t.isEmpty() && kind(t.charAt(0)) == 2 && new BigInteger(t).compareTo(BigInteger.valueOf(100000)) <= 0;
                boolean part = number || PARTS.contains(t);
                if (part || t.equals("known") || t.equals("over")) {
                    parts++;
                }
                if (parts > 50) {
                    return i;
                }
                String top = open.isEmpty() ? "" : open.peek();
                String next = "";
                switch (state) {
                    case "clause":
                        clauses++;
                        next = HEADS.contains(t) && clauses <= 12 ? "head" : "";
                        break;
                    case "head":
                        next = t.equals("if") ? "plain" : t.equals(";") ? "clause" : t.isEmpty() ? "end" : "";
                        break;
                    case "plain":
                        right = false;
                        if (t.equals("not")) {
                            next = "plain";
                        } else if (t.equals("(") && open.size() < 8) {
                            open.push(t);
                            next = "plain";
                        } else if (t.equals("known") || t.equals("over")) {
                            next = "tested";
                        } else if (part) {
                            next = "summed";
                        } else if (t.equals("[") && open.size() < 8) {
                            open.push(t);
                            next = "part";
                        }
                        break;
                    case "part":
                        if (part) {
                            next = "summed";
                        } else if (t.equals("[") && open.size() < 8) {
                            open.push(t);
                            next = "part";
                        }
                        break;
                    case "summed":
                        if (List.of("+", "-", "*", "/").contains(t)) {
                            next = "part";
                        } else if (top.equals("[")) {
                            if (t.equals("]")) {
                                open.pop();
                                next = "summed";
                            }
                        } else if (!right) {
                            if (List.of("<", ">", "=").contains(t)) {
                                right = true;
                                next = "part";
                            }
                        } else {
                            next = tested(t, top, open);
                        }
                        break;
                    default:
                        next = tested(t, top, open);
                        break;
                }
                if (next.isEmpty()) {
                    return i;
                }
                state = next;
            }
            return -1;
        }

        private static String tested(String t, String top, Deque<String> open) {
            if (t.equals("and") || t.equals("or")) {
                return "plain";
            }
            if (t.equals(")") && top.equals("(")) {
                open.pop();
                return "tested";
            }
            if (top.isEmpty()) {
                return t.equals(";") ? "clause" : t.isEmpty() ? "end" : "";
            }
            return "";
        }

        // ---- what it says

        private int at;
        private Map<String, Long> now;

        int move(Model m, List<Integer> came, boolean over, List<Integer> said, int second) {
            List<Model.Sentence> come = m.come(came, over);
            List<Integer> legal = m.legal(came, over, said);
            now = new HashMap<>();
            int guess = -1;
            long topWeight = 0;
            TreeSet<Integer> values = new TreeSet<>();
            if (said.size() < 3) {
                int slot = Model.ORDERS[m.order][said.size()];
                values = Model.valuesIn(come, slot);
                for (int v : values) {
                    long w = 0;
                    for (Model.Sentence s : come) {
                        w += s.values[slot] == v ? m.weight(s) : 0;
                    }
                    if (w > topWeight) {
                        topWeight = w;
                        guess = v;
                    }
                }
            }
            now.put("held", (long) m.held(came, said.size()));
            now.put("head", (long) m.terms[0]);
            now.put("done", (long) said.size());
            now.put("likely", topWeight * 100 / m.ways(came, over));
            now.put("left", (long) values.size());
            now.put("second", (long) second);
            now.put("who", (long) m.who);
            now.put("wrong", legal.stream().filter(x -> x >= 20).count());
            now.put("load", (long) m.load(came));
            now.put("known", values.size() == 1 ? 1L : 0L);
            now.put("over", over ? 1L : 0L);
            for (int start = 0; start < tokens.size(); ) {
                int stop = start;
                while (!tokens.get(stop).equals(";") && !tokens.get(stop).isEmpty()) {
                    stop++;
                }
                int move = meant(tokens.get(start), legal, guess);
                if (legal.contains(move) && isSo(start + 1)) {
                    return move;
                }
                start = stop + 1;
            }
            for (int move : new int[] {1, 0, 4}) {
                if (legal.contains(move)) {
                    return move;
                }
            }
            return 3;
        }

        private static int meant(String head, List<Integer> legal, int guess) {
            switch (head) {
                case "wait":
                    return 0;
                case "say":
                    return 1;
                case "open":
                    return 2;
                case "drop":
                    return 3;
                case "guess":
                    return 10 + guess;
                default:
                    return legal.stream().filter(x -> x >= 20).findFirst().orElse(-1);
            }
        }

        private boolean isSo(int start) {
            if (!tokens.get(start).equals("if")) {
                return true;
            }
            at = start + 1;
            try {
                return test(true);
            } catch (Broken broken) {
                return false;
            }
        }

        private boolean take(String... any) {
            for (String t : any) {
                if (tokens.get(at).equals(t)) {
                    at++;
                    return true;
                }
            }
            return false;
        }

        /** With asked false it is only gone over. */
        private boolean test(boolean asked) {
            boolean is = both(asked);
            while (take("or")) {
                boolean other = both(asked && !is);
                is = is || other;
            }
            return is;
        }

        private boolean both(boolean asked) {
            boolean is = plain(asked);
            while (take("and")) {
                boolean other = plain(asked && is);
                is = is && other;
            }
            return is;
        }

        private boolean plain(boolean asked) {
            if (take("not")) {
                return !plain(asked);
            }
            if (take("(")) {
                boolean is = test(asked);
                take(")");
                return is;
            }
            if (take("known")) {
                return now.get("known") == 1;
            }
            if (take("over")) {
                return now.get("over") == 1;
            }
            long left = sum(asked);
            String sign = tokens.get(at++);
            long right = sum(asked);
            return sign.equals("<") ? left < right : sign.equals(">") ? left > right : left == right;
        }

        private static long checked(long x, boolean asked) {
            if (Math.abs(x) > 1000000000L) {
                if (asked) {
                    throw new Broken();
                }
                return 0;
            }
            return x;
        }

        private long sum(boolean asked) {
            long x = term(asked);
            while (true) {
                if (take("+")) {
                    x = checked(x + term(asked), asked);
                } else if (take("-")) {
                    x = checked(x - term(asked), asked);
                } else {
                    return x;
                }
            }
        }

        private long term(boolean asked) {
            long x = part(asked);
            while (true) {
                if (take("*")) {
                    x = checked(x * part(asked), asked);
                } else if (take("/")) {
                    long by = part(asked);
                    if (by == 0 && asked) {
                        throw new Broken();
                    }
                    x = by == 0 ? 0 : x / by;
                } else {
                    return x;
                }
            }
        }

        private long part(boolean asked) {
            if (take("[")) {
                long x = sum(asked);
                take("]");
                return x;
            }
            String t = tokens.get(at++);
            return now.containsKey(t) ? now.get(t) : Long.parseLong(t);
        }
    }
}
