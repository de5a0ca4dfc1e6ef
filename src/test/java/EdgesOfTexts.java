import java.util.ArrayList;
import java.util.List;
import java.util.Set;

/** Part II of the document's terms, promises 16 to 19, and what a TEST says: each sentence that names an edge. */
public final class EdgesOfTexts {
    private static final int NONE = Due.NONE;
    private static final int MIN = Due.MIN;
    private static final int MAX = Due.MAX;

    public static void main(String[] args) {
        tapeLength();
        tapeBytes();
        tapeRefused();
        tapeEnd();
        tapeCutOff();
        textPlaces();
        textRoomAheadOfReading();
        textTape();
        emptyTexts();
        tokensOfLetters();
        tokensOfDigits();
        tokensOfOthers();
        blanks();
        clauseCount();
        grammar();
        numbers();
        partCount();
        brackets();
        faultKept();
        sums();
        brokenSums();
        comparisons();
        tests();
        lazyTests();
        Due.end("EdgesOfTexts");
    }

    // ---- the TAPE

    private static void tapeLength() {
        Due.says("feed: how many it has. NONE, if there would be more than 400.");
        GlassBox x = new GlassBox();
        for (int i = 1; i <= 20; i++) {
            Due.due("feed " + i, x.feed(0, 0, 0, 0, 0), 20 * i);
            Due.due("count", x.count(4), 20 * i);
        }
        Due.due("a 21st feed", x.feed(0, 0, 0, 0, 0), NONE);
        Due.due("count", x.count(4), 400);
        Due.due("399", x.end(399), 399);
        Due.due("419 would be", x.feed(0, 0, 0, 0, 0), NONE);
        Due.due("381", x.end(381), 381);
        Due.due("401 would be", x.feed(0, 0, 0, 0, 0), NONE);
        Due.due("count", x.count(4), 381);
        Due.due("380", x.end(380), 380);
        Due.due("400 would be", x.feed(0, 0, 0, 0, 0), 400);
        Due.due("1", x.end(1), 1);
        Due.due("21", x.feed(0, 0, 0, 0, 0), 21);
    }

    private static void tapeBytes() {
        Due.says("feed: Twenty bytes come behind the TAPE, four of each number, the highest first");
        GlassBox x = new GlassBox();
        x.feed(0x00010203, 0x04050607, 0, 0, 0);
        x.end(8);
        x.sentence(0, 0, 0);
        for (int i = 0; i < 8; i++) {
            Due.due("byte " + i, x.row(0, i), i);
        }
        // " say if known and 1>" and "0" in five numbers each.
        x.feed(0x20736179, 0x20696620, 0x6b6e6f77, 0x6e20616e, 0x6420313e);
        x.feed(0x30202020, 0x20202020, 0x20202020, 0x20202020, 0x20202020);
        Due.due("all five numbers, one behind the other", x.habit(), 0);
        x.feed(0x73617920, 0x20202020, 0x20202020, 0x20202020, 0x20202021);
        Due.due("the last byte", x.habit(), -6);
        Due.due("the last byte", x.fault(), 19);
        x.feed(0x73617920, 0x20202020, 0x20202020, 0x20202020, 0xFF202020);
        x.habit();
        Due.due("a number below 0", x.fault(), 16);
        x.feed(-1, 0, 0, 0, 0);
        x.end(1);
        Due.due("255, not -1", x.sentence(0, 0, 0), -6);
    }

    private static void tapeRefused() {
        Due.says("feed: NONE leaves the TAPE as it was");
        GlassBox x = new GlassBox();
        Due.feedText(x, "say" + Due.times(397, " "));
        Due.due("no room", x.feed(-1, -1, -1, -1, -1), NONE);
        Due.due("400 bytes become a TEXT", x.habit(), 0);
        Due.feedText(x, Due.times(396, " ") + "wait");
        Due.due("no room", x.feed(-1, -1, -1, -1, -1), NONE);
        Due.due("400 bytes become a TEXT", x.habit(), 1);
    }

    private static void tapeEnd() {
        Due.says("end: n. NONE, if it has not so many, or n is below 0.");
        GlassBox x = new GlassBox();
        Due.due("0 of 0", x.end(0), 0);
        Due.due("1 of 0", x.end(1), NONE);
        x.feed(0, 0, 0, 0, 0);
        for (int bad : new int[] {21, -1, 400, 401, MIN, MAX}) {
            Due.due("end(" + bad + ")", x.end(bad), NONE);
            Due.due("as many as there were", x.count(4), 20);
        }
        Due.due("20 of 20", x.end(20), 20);
        Due.due("19 of 20", x.end(19), 19);
        Due.due("20 of 19", x.end(20), NONE);
        Due.due("count", x.count(4), 19);
        Due.due("0 of 19", x.end(0), 0);
        Due.due("count", x.count(4), 0);
        Due.due("400", fedTo400().end(400), 400);
        Due.due("401 of 400", fedTo400().end(401), NONE);
    }

    private static GlassBox fedTo400() {
        GlassBox x = new GlassBox();
        for (int i = 0; i < 20; i++) {
            x.feed(0, 0, 0, 0, 0);
        }
        return x;
    }

    private static void tapeCutOff() {
        Due.says("end: The TAPE has its first n bytes alone");
        GlassBox x = new GlassBox();
        Due.feedText(x, "sa");
        x.feed(0x79000000, 0, 0, 0, 0);
        x.end(3);
        Due.due("what comes then stands right behind", x.habit(), 0);
        x.feed(-1, -1, -1, -1, -1);
        x.end(0);
        Due.due("nothing is left", x.habit(), -6);
        Due.due("nothing is left", x.fault(), 0);
    }

    // ---- TEXTS

    private static void textPlaces() {
        Due.says("HABITS are TEXTS, 8 at most; habit: its number. -5");
        GlassBox x = new GlassBox();
        for (int i = 0; i < 8; i++) {
            Due.taken(x, "text " + i, Due.habit(x, "wait"), i);
            Due.due("count", x.count(2), i + 1);
        }
        Due.refused(x, "a 9th", Due.habit(x, "wait"), -5);
        Due.due("count", x.count(2), 8);
        Due.sentence(x, 0, 0, 0, 1);
        Due.due("the 8th", x.worth(7), 3);
        Due.due("no 9th", x.worth(8), NONE);
        GlassBox y = new GlassBox();
        Due.refused(y, "one that can't be", Due.habit(y, "wait wait"), -6);
        Due.due("it has no place", y.count(2), 0);
        Due.taken(y, "the first that can", Due.habit(y, "wait"), 0);
    }

    private static void textRoomAheadOfReading() {
        Due.says("habit: -5 (ahead of reading it); fault: of the latest habit() that read a TEXT");
        GlassBox x = new GlassBox();
        for (int i = 0; i < 7; i++) {
            Due.habit(x, "wait");
        }
        x.image(1);
        Due.habit(x, "wait");
        x.image(0);
        Due.refused(x, "no room, can't be", Due.habit(x, "wait wait"), -5);
        Due.due("it was not read", x.fault(), NONE);
        Due.refused(x, "no room, nothing", x.habit(), -5);
        Due.due("it was not read", x.fault(), NONE);
        x.back(1);
        Due.refused(x, "room, can't be", Due.habit(x, "say 5"), -6);
        Due.due("it was read", x.fault(), 4);
        x.back(0);
        Due.refused(x, "no room, can be", Due.habit(x, "wait"), -5);
        Due.due("it was not read", x.fault(), 4);
        Due.refused(x, "no room, can't be", Due.habit(x, "wait wait"), -5);
        Due.due("it was not read", x.fault(), 4);
    }

    private static void textTape() {
        Due.says("habit: The TAPE, which is empty then");
        GlassBox x = new GlassBox();
        for (int i = 0; i < 8; i++) {
            Due.habit(x, "wait");
            Due.due("taken", x.count(4), 0);
            Due.habit(x, i < 7 ? "wait wait" : "wait");
            Due.due("-6 or -5", x.count(4), 0);
        }
        Due.due("20 bytes come onto an empty TAPE", x.feed(0, 0, 0, 0, 0), 20);
    }

    private static void emptyTexts() {
        Due.says("habit: (blanks alone: FAULT at the end)");
        for (int n : new int[] {0, 1, 2, 19, 20, 21, 399, 400}) {
            fault(Due.times(n, " "), n);
        }
    }

    /** A TEXT by itself, on an object of its own. */
    private static void fault(String text, int place) {
        GlassBox x = new GlassBox();
        int got = Due.habit(x, text);
        Due.due("habit: " + text, got, place == NONE ? 0 : -6);
        Due.due("status: " + text, x.status(), place == NONE ? 0 : -6);
        Due.due("fault: " + text, x.fault(), place);
        Due.due("count(2): " + text, x.count(2), place == NONE ? 1 : 0);
    }

    private static void fine(String text) {
        fault(text, NONE);
    }

    private static void tokensOfLetters() {
        Due.says("TOKENS: longest rows of letters a .. z");
        fault("sayif known", 0);
        fault("says", 0);
        fault("sa y", 0);
        fault("s", 0);
        fault("ssay", 0);
        fault("waitsay", 0);
        fault("say ifknown", 4);
        fault("say if knownor over", 7);
        fault("say if known orover", 13);
        fault("say if notknown", 7);
        fault("say if heldd=1", 7);
        fault("say if hel=1", 7);
        fault("Say", 0);
        fault("SAY", 0);
        fault("saY", 0);
        fault("sayZ", 3);
        fine("say if(known)or(over)");
        fine("say if 1<held or held>1and known");
    }

    private static void tokensOfDigits() {
        Due.says("TOKENS: longest rows of digits");
        fine("say if 12=12");
        fault("say if 1 2=12", 9);
        fault("say5", 3);
        fine("say if 1=1and 2=2");
        fault("say if 1=1 a", 11);
        fault("say if 1a=1", 8);
        fault("say if a1=1", 7);
        fine("say if 0=9");
        fault("say if 1.5=1", 8);
    }

    private static void tokensOfOthers() {
        Due.says("TOKENS: single other bytes");
        int[] others = {0, 1, 9, 10, 13, 31, 33, '"', '/', ':', '@', 'A', 'Z', '_', '`', '{', 127, 128, 160, 223, 254, 255};
        for (int b : others) {
            fault("say" + (char) b, 3);
            fault((char) b + "say", 0);
            fault("say if known " + (char) b, 13);
        }
        fault("say;;say", 4);
        fault("say if 1<>2", 9);
        fault("say if 1>=2", 9);
        fault("say if 1==2", 9);
        fault("say if 1**2=1", 9);
        fault("say if 1//2=1", 9);
        fault("say if 1--2=1", 9);
        fine("say if((known)and(over))");
        fine("say if[[1]]=[[1]];wait");
    }

    private static void blanks() {
        Due.says("TOKENS: any blanks (32) between");
        fine("say");
        fine("   say   ");
        fine("say   if   known   and   not   over   ;   wait");
        fine("say if ( 1 + 2 * [ 3 - 4 ] / 5 < 6 )");
        fine("say if(1+2*[3-4]/5<6);wait if over");
        fault("say\tif known", 3);
        fault("say\nif known", 3);
        fault("  say   5", 8);
        fault("  5  say", 2);
    }

    private static void clauseCount() {
        Due.says("CLAUSE {\";\" CLAUSE}, 12 at most (FAULT at the 13th's first TOKEN)");
        String eleven = Due.times(10, "say;") + "say";
        fine(eleven);
        fine(eleven + ";wait");
        fault(eleven + ";wait;wait", eleven.length() + 6);
        fault(eleven + ";wait;   mend if known", eleven.length() + 9);
        fault(eleven + ";wait;", eleven.length() + 6);
        fault(eleven + ";wait;  ", eleven.length() + 8);
        fault(eleven + ";wait;5", eleven.length() + 6);
        fault(eleven + ";wait;;", eleven.length() + 6);
        fault(eleven + ";wait wait", eleven.length() + 6);
        String tests = Due.times(11, "say if known;") + "say if over";
        fine(tests);
        fault(tests + ";say", tests.length() + 1);
        fault(tests + ";wait;say", tests.length() + 1);
        GlassBox x = new GlassBox();
        Due.sentence(x, 0, 0, 0, 1);
        Due.habit(x, Due.times(11, "mend;") + "drop");
        Due.same("the 12th counts", Due.moves(x, 0, 0), "3 3 3 4");
    }

    /** Every TOKEN behind every beginning: what can go on there does, what can't is the FAULT. */
    private static void grammar() {
        Set<String> heads = Set.of("wait", "say", "open", "drop", "guess", "mend");
        Set<String> parts = Set.of("0", "100000", "[", "held", "head", "done", "likely", "left", "second", "who", "wrong", "load");
        Set<String> signs = Set.of("+", "-", "*", "/");
        Set<String> plains = union(parts, Set.of("not", "(", "known", "over"));
        Set<String> compared = union(signs, Set.of("<", ">", "="));
        Set<String> joins = Set.of("and", "or");
        Set<String> ended = union(joins, Set.of(";", ""));
        Due.says("CLAUSE: HEAD [\"if\" TEST]. HEAD: \"wait\" | \"say\" | ..");
        goesOn("", heads);
        goesOn("wait;", heads);
        goesOn("say if known;", heads);
        for (String head : heads) {
            goesOn(head, Set.of("if", ";", ""));
        }
        Due.says("PLAIN: \"not\" PLAIN | \"(\" TEST \")\" | \"known\" | \"over\" | SUM (\"<\" | \">\" | \"=\") SUM");
        for (String ahead : List.of("say if", "say if not", "say if not not", "say if (", "say if known or", "say if over and",
                "say if 1=1 or", "say if (known) and", "say if (known or", "drop;say if", "say if (not")) {
            goesOn(ahead, plains);
        }
        Due.says("TEST: BOTH {\"or\" BOTH}. BOTH: PLAIN {\"and\" PLAIN}.");
        for (String ahead : List.of("say if known", "say if not over", "say if (known)", "say if ((known))", "say if 1=1 and known",
                "say if (1=1)", "drop;say if known")) {
            goesOn(ahead, ended);
        }
        for (String ahead : List.of("say if (known", "say if (not over", "say if ((known)", "say if (1=1 or known")) {
            goesOn(ahead, union(joins, Set.of(")")));
        }
        Due.says("SUM: TERM {(\"+\" | \"-\") TERM}. TERM: PART {(\"*\" | \"/\") PART}.");
        for (String ahead : List.of("say if 1", "say if held", "say if [1]", "say if not 1", "say if (1", "say if ([1]", "say if 1+1",
                "say if 1*[2]", "say if known and 1", "say if 100000")) {
            goesOn(ahead, compared);
        }
        for (String ahead : List.of("say if 1=1", "say if 1<held", "say if 1>[1]", "say if not 1=1", "say if 1=1+1", "say if (known) or 1=1")) {
            goesOn(ahead, union(signs, ended));
        }
        for (String ahead : List.of("say if (1=1", "say if (1=[1]", "say if (known and 1=1*2")) {
            goesOn(ahead, union(union(signs, joins), Set.of(")")));
        }
        Due.says("PART: NUMBER | \"[\" SUM \"]\" | \"held\" | ..");
        for (String ahead : List.of("say if 1+", "say if 1-", "say if 1*", "say if 1/", "say if 1=", "say if 1<", "say if 1>", "say if [",
                "say if [[", "say if 1=[", "say if [1+", "say if (1=")) {
            goesOn(ahead, parts);
        }
        for (String ahead : List.of("say if [1", "say if [held", "say if 1=[1", "say if [[1]", "say if ([1", "say if [1+2*3")) {
            goesOn(ahead, union(signs, Set.of("]")));
        }
    }

    private static Set<String> union(Set<String> one, Set<String> other) {
        Set<String> all = new java.util.TreeSet<>(one);
        all.addAll(other);
        return all;
    }

    private static List<String> tokens() {
        List<String> all = new ArrayList<>(List.of("", "wait", "say", "open", "drop", "guess", "mend", "if", "or", "and", "not", "known",
            "over", "held", "head", "done", "likely", "left", "second", "who", "wrong", "load", "0", "100000", "100001", "end", "x", "then"));
        for (char sign : "()[]<>=+-*/;!,.&|%^~#'{}?:\\".toCharArray()) {
            all.add("" + sign);
        }
        return all;
    }

    private static void goesOn(String ahead, Set<String> can) {
        for (String token : tokens()) {
            GlassBox x = new GlassBox();
            int place = ahead.length() + (token.isEmpty() ? 0 : 1);
            String text = token.isEmpty() ? ahead : ahead + " " + token;
            int got = Due.habit(x, text);
            int fault = x.fault();
            boolean goes = got == 0 || fault > place;
            Due.due("goes on there: " + text, goes ? 1 : 0, can.contains(token) ? 1 : 0);
            if (!can.contains(token)) {
                Due.due("habit: " + text, got, -6);
                Due.due("fault: " + text, fault, place);
            } else if (got != 0) {
                Due.due("fault at the end: " + text, fault, text.length());
            }
        }
    }

    private static void numbers() {
        Due.says("NUMBERS to 100,000");
        fine("say if 0=99999");
        fine("say if 100000=0");
        fault("say if 100001=0", 7);
        fault("say if 0=100001", 9);
        fault("say if 0 = 110000", 11);
        fault("say if 999999=0", 7);
        fault("say if 1000000=0", 7);
        fine("say if 0000000000000100000=0");
        fault("say if 0000000000000100001=0", 7);
        for (String big : List.of("2147483647", "2147483648", "4294967296", "4294967297", "9223372036854775808", "18446744073709551617")) {
            fault("say if " + big + "=0", 7);
        }
        fault("say if " + Due.times(393, "9"), 7);
        fault("say if " + Due.times(393, "0"), 400);
        so("100000=99999+1", true);
        so("00012=12", true);
        so("007=7", true);
    }

    private static void partCount() {
        Due.says("50 NUMBERS and words that are PARTS or PLAINS by themselves (FAULT at the 51st)");
        String numbers = "say if " + Due.times(48, "1+") + "1=";
        fine(numbers + "1");
        fault(numbers + "1+1", numbers.length() + 2);
        fault(numbers + "1+held", numbers.length() + 2);
        fault(numbers + "1 or known", numbers.length() + 5);
        fault(numbers + "1 and over", numbers.length() + 6);
        fault(numbers + "1;say if known", numbers.length() + 9);
        fault(numbers + "1;say if 1", numbers.length() + 9);
        fine(numbers + "1;wait;mend;say;open;drop;guess");
        fault(numbers + "1 or", numbers.length() + 4);
        fault(numbers + "1 or x", numbers.length() + 5);
        String words = "say if " + Due.times(24, "who=who or ") + "who=";
        fine(words + "who");
        fault(words + "who or who=who", words.length() + 7);
        String plains = "say if known" + Due.times(23, " or over") + " or " + Due.times(23, "1+") + "1=1";
        fine(plains + " or over");
        fault(plains + " or over or over", plains.length() + 12);
        fault(plains + " or 1=1", plains.length() + 6);
        String twelve = Due.times(11, "say if 1+1+1=1;") + "say if ";
        fine(twelve + "1+1+1+1+1=1");
        fault(twelve + "1+1+1+1+1=1+1", twelve.length() + 12);
        String mixed = "say if not(not[held]+[1]=[[1]]*1)and(known)or " + Due.times(43, "1+") + "1=";
        fine(mixed + "1");
        fault(mixed + "1 or over", mixed.length() + 5);
        fault(mixed + "1+[1]", mixed.length() + 3);
    }

    private static void brackets() {
        Due.says("8 brackets of both kinds within one another (FAULT at the 9th) at most");
        for (int round = 0; round <= 8; round++) {
            int edged = 8 - round;
            String inner = edged == 0 ? "known" : Due.times(edged, "[") + "1" + Due.times(edged, "]") + "=1";
            fine("say if " + Due.times(round, "(") + inner + Due.times(round, ")"));
            String right = edged == 0 ? "over" : "1=" + Due.times(edged, "[") + "1" + Due.times(edged, "]");
            fine("say if " + Due.times(round, "(") + right + Due.times(round, ")"));
            String more = Due.times(edged + 1, "[") + "1" + Due.times(edged + 1, "]") + "=1";
            fault("say if " + Due.times(round, "(") + more + Due.times(round, ")"), 7 + 8);
            String moreRight = "1=" + Due.times(edged + 1, "[") + "1" + Due.times(edged + 1, "]");
            fault("say if " + Due.times(round, "(") + moreRight + Due.times(round, ")"), 7 + 8 + 2);
        }
        fault("say if " + Due.times(9, "(") + "known" + Due.times(9, ")"), 15);
        fault("say if " + Due.times(390, "("), 15);
        fault("say if " + Due.times(390, "["), 15);
        fault("say if " + Due.times(8, "(") + "not (known)" + Due.times(8, ")"), 19);
        String eight = Due.times(8, "(") + "known" + Due.times(8, ")");
        fine("say if " + eight + "and" + eight + "or not" + eight + ";wait if" + eight);
        String edged = Due.times(8, "[") + "1" + Due.times(8, "]");
        fine("say if " + edged + "+" + edged + "*" + edged + "=" + edged);
        fine("say if " + Due.times(12, "(known)and") + "(known)");
        fault("say if " + Due.times(8, "(") + "known" + Due.times(7, ")"), 27);
        fault("say if " + Due.times(8, "(") + "known" + Due.times(9, ")"), 28);
    }

    private static void faultKept() {
        Due.says("fault: its place; NONE without");
        GlassBox x = new GlassBox();
        Due.due("ahead of any", x.fault(), NONE);
        Due.habit(x, "say 5");
        Due.due("its place", x.fault(), 4);
        Due.due("asked twice", x.fault(), 4);
        Due.habit(x, "wait  5");
        Due.due("the latest one's", x.fault(), 6);
        x.image(0);
        Due.sentence(x, 0, 0, 0, 30);
        x.order(9);
        Due.due("no other call's", x.fault(), 6);
        Due.habit(x, "wait");
        Due.due("NONE without", x.fault(), NONE);
        x.back(0);
        Due.due("BACK leaves it", x.fault(), NONE);
        Due.habit(x, "x");
        Due.due("at the first byte", x.fault(), 0);
        x.back(0);
        Due.due("BACK leaves it", x.fault(), 0);
    }

    // ---- what a TEST says: the first MOVE is DROP if it is so

    private static void so(String test, boolean so) {
        GlassBox x = new GlassBox();
        Due.sentence(x, 0, 0, 0, 1);
        Due.due("can be read: " + test, Due.habit(x, "drop if " + test + ";wait"), 0);
        x.run(0, 0);
        Due.due(test, x.move(0), so ? 3 : 0);
    }

    /** Neither it nor its contrary is so. */
    private static void broken(String test) {
        so(test, false);
        so("not (" + test + ")", false);
        so("not not (" + test + ")", false);
    }

    private static void sums() {
        Due.says("SUM: TERM {(\"+\" | \"-\") TERM}. TERM: PART {(\"*\" | \"/\") PART}.");
        so("1+2*3=7", true);
        so("2*3+1=7", true);
        so("[1+2]*3=9", true);
        so("3*[1+2]=9", true);
        so("9-3-2=4", true);
        so("9-[3-2]=8", true);
        so("8/4/2=1", true);
        so("8/[4/2]=4", true);
        so("7/2*2=6", true);
        so("2*7/2=7", true);
        so("10-2*3-1=3", true);
        so("[[[5]]]=5", true);
        Due.says("/ is cut towards 0");
        so("7/2=3", true);
        so("[0-7]/2=0-3", true);
        so("7/[0-2]=0-3", true);
        so("[0-7]/[0-2]=3", true);
        so("1/2=0", true);
        so("5/1=5", true);
        so("5/[0-1]=0-5", true);
        so("5/5=1", true);
        so("[0-1]/2=0", true);
        so("0/5=0", true);
        so("[0-6]/2=0-3", true);
    }

    private static void brokenSums() {
        Due.says("Beyond 1,000,000,000 either way, or divided by 0, it is BROKEN");
        so("100000*10000=100000*10000", true);
        so("100000*10000-1+1>0", true);
        broken("100000*10000+1>0");
        broken("1+100000*10000>0");
        broken("100000*10001>0");
        so("100000*9999+99999+1>0", true);
        broken("100000*9999+99999+2>0");
        so("0-100000*10000<0", true);
        broken("0-100000*10000-1<0");
        so("[0-100000]*10000<0", true);
        broken("[0-100000]*10001<0");
        so("[0-100000]*10000+1<0", true);
        broken("100000*10000-[0-1]>0");
        broken("100000*100000/100000>0");
        broken("100000*10000+1-1>0");
        broken("[100000*10001]*0=0");
        broken("0*[100000*10001]=0");
        broken("0=100000*10001");
        broken("100000*10001=100000*10001");
        broken("100000*100000*100000*100000*100000>0");
        so("1000*1000*1000=100000*10000", true);
        broken("1000*1000*1001>0");
        broken("1/0=0");
        broken("0/0=0");
        broken("1=1/0");
        broken("1/[2-2]=0");
        broken("[1/0]*0=0");
        broken("5+1/0>0");
        broken("100000*10000/0>0");
        so("0/1=0", true);
    }

    private static void comparisons() {
        Due.says("SUM (\"<\" | \">\" | \"=\") SUM");
        so("1<2", true);
        so("2<2", false);
        so("3<2", false);
        so("1>2", false);
        so("2>2", false);
        so("3>2", true);
        so("1=2", false);
        so("2=2", true);
        so("3=2", false);
        for (String sign : List.of("<", ">", "=")) {
            for (int left = 1; left <= 3; left++) {
                boolean is = sign.equals("<") ? left < 2 : sign.equals(">") ? left > 2 : left == 2;
                so(left + sign + "2", is);
                so("not " + left + sign + "2", !is);
                so("not not " + left + sign + "2", is);
            }
        }
        so("0-1<0", true);
        so("0-1>0", false);
        so("[0-1]=0-1", true);
    }

    private static void tests() {
        Due.says("TEST: BOTH {\"or\" BOTH}. BOTH: PLAIN {\"and\" PLAIN}. PLAIN: \"not\" PLAIN");
        so("1=1 or 1=1 and 1=2", true);
        so("(1=1 or 1=1) and 1=2", false);
        so("1=2 and 1=1 or 1=1", true);
        so("1=2 and (1=1 or 1=1)", false);
        so("not 1=2 and 1=2", false);
        so("not (1=2 and 1=2)", true);
        so("not 1=1 or 1=1", true);
        so("not (1=1 or 1=1)", false);
        so("not not 1=1", true);
        so("not not not 1=1", false);
        so("not not not not 1=2", false);
        so(Due.times(90, "not ") + "1=1", true);
        so(Due.times(91, "not ") + "1=1", false);
        so("1=2 or 1=2 or 1=1", true);
        so("1=2 or 1=2 or 1=2", false);
        so("1=1 and 1=1 and 1=1", true);
        so("1=1 and 1=1 and 1=2", false);
        so("known", true);
        so("not known", false);
        so("over", false);
        so("not over", true);
    }

    private static void lazyTests() {
        Due.says("(\"or\", \"and\" ask what stands behind only if it can still matter)");
        so("1=1 or 1/0=1", true);
        broken("1=2 or 1/0=1");
        so("1=2 and 1/0=1", false);
        so("not (1=2 and 1/0=1)", true);
        broken("1=1 and 1/0=1");
        broken("1/0=1 or 1=1");
        broken("1/0=1 and 1=2");
        so("1=1 or 1/0=1 or 1/0=1", true);
        so("1=2 or 1=1 or 1/0=1", true);
        so("1=1 or 1/0=1 and 1/0=1", true);
        so("1=2 and 1/0=1 or 1=1", true);
        so("1=2 and 1/0=1 and 1/0=1 or 1=1", true);
        broken("1=1 and 1=1 and 1/0=1");
        so("not (1=1 and 1=2 and 1/0=1)", true);
        so("(1=1 or 1/0=1) and 1=1", true);
        so("(1=2 and 1/0=1) or 1=1", true);
        broken("(1=1 or 1/0=1) and 1/0=1");
        broken("(1=2 and 1/0=1) or 1/0=1");
        so("not 1=1 and 1/0=1", false);
        so("not (not 1=1 and 1/0=1)", true);
        so("not 1=2 or 1/0=1", true);
        Due.says("of the first CLAUSE of which the \"if\" (if it has one) is so and not BROKEN");
        GlassBox x = new GlassBox();
        Due.sentence(x, 0, 0, 0, 1);
        Due.habit(x, "drop if 1/0=1;drop if 1=2;wait if 1=1;say");
        Due.same("the third", Due.moves(x, 0, 0), "0 1 1 1 4");
        Due.habit(x, "drop if 1/0=1");
        Due.same("as if without one", Due.moves(x, 1, 0), "1 1 1 4");
    }
}
