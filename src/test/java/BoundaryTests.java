import java.util.Arrays;

/**
 * For each sentence of ../shared/DOC.md that names a boundary a test of its own, on both sides of it; what is due was
 * worked out by hand. What is refused stands in RefusalTests.
 */
public final class BoundaryTests {
    private static final String TEN_WORDS = "w000;w101;w202;w303;w404;w505;w606;w707;w808;w909;";
    private static final String TEN_NINES = "w900;".repeat(10);

    private static String sentence = "";
    private static int sentences = 0;
    private static int looked = 0;
    private static int wrong = 0;

    private static void test(String told, Runnable test) {
        sentence = told;
        sentences++;
        test.run();
    }

    private static void due(String call, int got, int want) {
        looked++;
        if (got == want) return;
        wrong++;
        System.out.println("\"" + sentence + "\": " + call + " answered " + got + ", due is " + want);
    }

    private static int tell(EatenByDusk x, String told) {
        for (int i = 0; i < told.length(); i++) {
            x.letter(told.charAt(i));
        }
        return x.text();
    }

    private static int textOf(String told) {
        return tell(new EatenByDusk(), told);
    }

    private static EatenByDusk with(String told) {
        EatenByDusk x = new EatenByDusk();
        due("text() of " + told, tell(x, told), (int) told.chars().filter(c -> c == ';').count());
        return x;
    }

    private static void hours(EatenByDusk x, int n) {
        for (int i = 0; i < n; i++) {
            x.hour();
        }
    }

    private static void row(EatenByDusk x, int... meanings) {
        for (int meaning : meanings) {
            x.row(meaning);
        }
    }

    private static void watchAllDay(EatenByDusk x, int word) {
        for (int hour = 0; hour < 8; hour++) {
            x.watch(word, hour, 1);
        }
    }

    /** The bits of the words from one on up to ahead of another. */
    private static int bits(int from, int ahead) {
        return (1 << ahead) - (1 << from);
    }

    // ---- Terms: what there is ----

    private static void words() {
        EatenByDusk x = with("w000;".repeat(9));
        due("two more", tell(x, "w100;w200;"), -2005);
        due("none came", x.count(0), 9);
        due("the tenth", tell(x, "w929;"), 1);
        due("ten", x.count(0), 10);
        due("its sweet", x.word(9, 0), 9);
        due("the eleventh", tell(x, "w100;"), -2000);
        due("ten", x.count(0), 10);
        due("word(10, 0)", x.word(10, 0), -1);
        due("ten in one text", textOf("w000;".repeat(10)), 10);
        due("eleven in one text", textOf("w000;".repeat(11)), -2050);
    }

    private static void birds() {
        EatenByDusk x = with("bs000;bs000;bs000;");
        due("two more", tell(x, "bt111;bt222;"), -2006);
        due("none came", x.count(1), 3);
        due("the fourth", tell(x, "bf977;"), 1);
        due("four", x.count(1), 4);
        due("its taste", x.bird(3, 1), 9);
        due("the fifth", tell(x, "bs000;"), -2000);
        due("four", x.count(1), 4);
        due("bird(4, 0)", x.bird(4, 0), -1);
        due("four in one text", textOf("bs000;".repeat(4)), 4);
        due("five in one text", textOf("bs000;".repeat(5)), -2024);
        due("neither takes the other's room", tell(with("w000;".repeat(10)), "bs000;".repeat(4)), 4);
    }

    private static void numbersOfWords() {
        for (int sweet = 0; sweet < 10; sweet++) {
            for (int ink = 0; ink < 10; ink++) {
                for (int meaning = 0; meaning < 10; meaning++) {
                    EatenByDusk x = new EatenByDusk();
                    String told = "w" + sweet + ink + meaning + ";";
                    boolean comes = ink <= 2;
                    due("text() of " + told, tell(x, told), comes ? 1 : -2000);
                    due("words by " + told, x.count(0), comes ? 1 : 0);
                    if (!comes) continue;
                    due("sweet by " + told, x.word(0, 0), sweet);
                    due("ink by " + told, x.word(0, 1), ink);
                    due("meaning by " + told, x.word(0, 2), meaning);
                    due("gone by " + told, x.word(0, 4), 0);
                }
            }
        }
    }

    private static void numbersOfBirds() {
        String kinds = "stcogf";
        for (int n = 0; n < 6000; n++) {
            int kind = n / 1000;
            int[] d = {n / 100 % 10, n / 10 % 10, n % 10};
            String told = "b" + kinds.charAt(kind) + d[0] + d[1] + d[2] + ";";
            boolean comes = d[1] <= d[2] && d[2] <= 7;
            EatenByDusk x = new EatenByDusk();
            due("text() of " + told, tell(x, told), comes ? 1 : -2000);
            due("birds by " + told, x.count(1), comes ? 1 : 0);
            if (!comes) continue;
            due("kind by " + told, x.bird(0, 0), kind);
            due("taste by " + told, x.bird(0, 1), d[0]);
            due("from by " + told, x.bird(0, 2), d[1]);
            due("till by " + told, x.bird(0, 3), d[2]);
        }
    }

    private static void numbersOfInks() {
        for (int n = 0; n < 100; n++) {
            int ink = n / 10;
            EatenByDusk x = new EatenByDusk();
            String told = "i" + ink + n % 10 + ";";
            due("text() of " + told, tell(x, told), ink <= 2 ? 1 : -2000);
            for (int i = 0; i < 3; i++) {
                due("bitter of " + i + " by " + told, x.bitter(i, 0), i == ink ? n % 10 : 0);
            }
        }
    }

    private static void numbersOfWatching() {
        for (int n = 0; n < 1000; n++) {
            int word = n / 100;
            int from = n / 10 % 10;
            int till = n % 10;
            EatenByDusk x = with("w900;w900;w900;");
            boolean comes = word <= 2 && from <= till && till <= 7;
            String told = "r" + word + from + till + ";";
            due("text() of " + told, tell(x, told), comes ? 1 : -2000);
            for (int w = 0; w < 3; w++) {
                for (int hour = 0; hour < 8; hour++) {
                    boolean watched = comes && w == word && from <= hour && hour <= till;
                    due("word " + w + " in hour " + hour + " by " + told, x.watch(w, hour, 0), watched ? 1 : 0);
                }
            }
        }
    }

    private static void bitterAtFirst() {
        EatenByDusk x = with("w910;w920;w900;");
        for (int ink = 0; ink < 3; ink++) {
            due("strength", x.word(ink, 3), 9);
            due("bitter(" + ink + ", 9)", x.bitter(ink, 9), 0);
            due("bitter(" + ink + ", 0)", x.bitter(ink, 0), 9);
            due("bitter(" + ink + ", 0)", x.bitter(ink, 0), 0);
        }
    }

    private static void hoursOfADay() {
        EatenByDusk x = with("w900;");
        for (int hour = 0; hour < 8; hour++) {
            due("HOUR", x.count(2), hour);
            due("hour()", x.hour(), 0);
        }
        due("dusk", x.count(2), 8);
        due("hour() at dusk", x.hour(), -3);
        due("dusk", x.count(2), 8);
        due("anew()", x.anew(), 1);
        due("HOUR", x.count(2), 0);
        due("hour()", x.hour(), 0);
    }

    private static void watchedAtFirst() {
        EatenByDusk x = with(TEN_NINES);
        for (int word = 0; word < 10; word++) {
            for (int hour = 0; hour < 8; hour++) {
                due("watch(" + word + ", " + hour + ", 1)", x.watch(word, hour, 1), 0);
            }
        }
        for (int word = 0; word < 10; word++) {
            for (int hour = 0; hour < 8; hour++) {
                due("watch(" + word + ", " + hour + ", 0)", x.watch(word, hour, 0), 1);
            }
        }
    }

    private static void watchedAtFirstBehindOn() {
        EatenByDusk x = with("w900;");
        x.image();
        tell(x, "w900;r107;r007;");
        x.on();
        tell(x, "w900;");
        for (int hour = 0; hour < 8; hour++) {
            due("word 1 in hour " + hour, x.watch(1, hour, 0), 0);
            due("word 0 in hour " + hour, x.watch(0, hour, 0), 0);
        }
    }

    private static void goneAtFirst() {
        EatenByDusk x = with("w900;bt007;");
        x.hour();
        tell(x, "w900;w900;");
        due("gone", x.word(0, 4), 1);
        due("a new word", x.word(1, 4), 0);
        due("a new word", x.word(2, 4), 0);
        due("left", x.left(0), 6);
        x.image();
        hours(x, 2);
        x.on();
        due("a word more", tell(x, "w900;"), 1);
        due("a new word behind on()", x.word(3, 4), 0);
    }

    // ---- Terms: texts ----

    private static void eightyLetters() {
        String all = "w900;w811;w722;w603;w514;w425;w306;w217;w128;w009;bs107;bt236;bc345;i09;i18;i27;";
        EatenByDusk x = new EatenByDusk();
        for (int i = 0; i < 80; i++) {
            due("letter " + (i + 1), x.letter(all.charAt(i)), i + 1);
        }
        due("the next", x.letter(';'), -6);
        due("letters", x.count(6), 80);
        due("text()", x.text(), 16);
        due("words", x.count(0), 10);
        due("birds", x.count(1), 3);
        due("the last ink's", x.bitter(2, 0), 7);
        due("letters are no more", x.count(6), 0);
        due("letter", x.letter('w'), 1);
    }

    private static void eachLetterMayCome() {
        for (int c = 0; c < 256; c++) {
            EatenByDusk x = new EatenByDusk();
            due("letter(" + c + ")", x.letter(c), 1);
            due("letters", x.count(6), 1);
        }
    }

    /** With all letters at a place: those allowed there, else FAULT of kind 1 at that place. */
    private static void place(String told, int place, String allowed) {
        for (int c = 0; c < 256; c++) {
            EatenByDusk x = new EatenByDusk();
            for (int i = 0; i < told.length(); i++) {
                x.letter(i == place ? c : told.charAt(i));
            }
            int got = x.text();
            boolean isMisspelt = got <= -1000 && got > -2000;
            boolean goesOn = allowed.indexOf(c) >= 0;
            due("kind 1 by " + c + " at " + place + " of " + told, isMisspelt ? got : 0, goesOn ? 0 : -1000 - place);
        }
    }

    private static void lettersThatGoOn() {
        String digits = "0123456789";
        String[] told = {"w111;", "bs111;", "i11;", "r111;"};
        String[][] allowed = {{digits, digits, digits, ";"}, {"stcogf", digits, digits, digits, ";"}, {digits, digits, ";"},
            {digits, digits, digits, ";"}};
        for (int i = 0; i < told.length; i++) {
            for (int n = 0; n < allowed[i].length; n++) {
                place(told[i], n + 1, allowed[i][n]);
                place("w222;" + told[i] + "i11;", 5 + n + 1, allowed[i][n]);
            }
        }
    }

    private static void lettersThatBegin() {
        for (int c = 0; c < 256; c++) {
            boolean begins = "wbir".indexOf(c) >= 0;
            String one = "" + (char) c;
            due("text() of " + c, textOf(one), begins ? -1001 : -1000);
            due("text() of w222; and " + c, textOf("w222;" + one), begins ? -1006 : -1005);
        }
        due("no statement between", textOf("w222;;"), -1005);
        due("no statement ahead", textOf(";w222;"), -1000);
    }

    private static void somethingLacks() {
        String told = "w901;bs207;i05;r007;";
        int statements = 0;
        for (int n = 0; n <= told.length(); n++) {
            boolean ends = n > 0 && told.charAt(n - 1) == ';';
            if (ends) statements++;
            EatenByDusk x = new EatenByDusk();
            due("text() of its first " + n, tell(x, told.substring(0, n)), ends ? statements : -1000 - n);
            due("letters behind it", x.count(6), 0);
            if (!ends) due("words behind it", x.count(0), 0);
        }
    }

    private static void atLeastOneStatement() {
        EatenByDusk x = new EatenByDusk();
        due("text() without letters", x.text(), -1000);
        due("text() again", x.text(), -1000);
        due("one", tell(x, "i00;"), 1);
        due("text() behind a text", x.text(), -1000);
    }

    private static void farPlaces() {
        String nineteen = "i00;".repeat(19);
        due("twenty statements", textOf(nineteen + "i00;"), 20);
        due("the last is out of range", textOf(nineteen + "i30;"), -2076);
        due("no such word in the last", textOf("i00;".repeat(15) + "w000;w000;w000;r300;"), -2075);
        due("the last letter", textOf(nineteen + "i000"), -1079);
        due("the end behind 79", textOf(nineteen + "i00"), -1079);
        due("the first of the last", textOf(nineteen + ";"), -1076);
    }

    private static void kindOneIsFirst() {
        due("kind 2 ahead of kind 1", textOf("w030;x"), -1005);
        due("kind 2 ahead of what lacks", textOf("i30;i0"), -1006);
        due("kind 2 in the statement itself", textOf("w03x;"), -1003);
        due("no room ahead of kind 1", textOf("w000;".repeat(11) + "w"), -1056);
        due("FROM above TILL ahead of kind 1", textOf("bs76;"), -1004);
    }

    private static void firstUnfitStatement() {
        due("of three the first", textOf("w000;i30;w030;r900;"), -2005);
        due("of three the first", textOf("w030;i30;r900;"), -2000);
        due("of three the first", textOf("i00;r000;i30;bs080;"), -2004);
        due("it is the statement's place, not the number's", textOf("i00;bs008;"), -2004);
    }

    private static void wordAheadOfIt() {
        due("no word", textOf("r000;"), -2000);
        due("the word comes behind", textOf("r000;w000;"), -2000);
        due("the word is just ahead", textOf("w000;r000;"), 2);
        due("one too far", textOf("w000;r100;"), -2005);
        due("the next comes behind", textOf("w000;r100;w000;"), -2005);
        due("the last of two", textOf("w000;w000;r100;"), 3);
        EatenByDusk x = with("w000;");
        due("of an earlier text", tell(x, "r000;"), 1);
        due("of an earlier text, one too far", tell(x, "r100;"), -2000);
        due("of both texts", tell(x, "w000;r100;"), 2);
        due("of both texts, one too far", tell(x, "w000;r300;"), -2005);
        due("the tenth", tell(with("w000;".repeat(10)), "r900;"), 1);
        due("a gone one is there", tell(gone(), "r007;"), 1);
    }

    private static EatenByDusk gone() {
        EatenByDusk x = with("w000;bs000;");
        x.hour();
        return x;
    }

    private static void watchedToo() {
        EatenByDusk x = with("w900;r011;r046;r055;");
        int[] want = {0, 1, 0, 0, 1, 1, 1, 0};
        for (int hour = 0; hour < 8; hour++) {
            due("hour " + hour, x.watch(0, hour, want[hour]), want[hour]);
        }
        tell(x, "r077;");
        want[7] = 1;
        for (int hour = 0; hour < 8; hour++) {
            due("hour " + hour, x.watch(0, hour, 0), want[hour]);
        }
    }

    private static void nothingWithFault() {
        String[] faults = {"x", "w", "i30;", "r900;", "bs010;", "w030;"};
        int[] want = {-1024, -1025, -2024, -2024, -2024, -2024};
        for (int i = 0; i < faults.length; i++) {
            EatenByDusk x = with("w900;");
            due("text() with " + faults[i], tell(x, "w100;bs000;i05;i16;r003;" + faults[i]), want[i]);
            due("words", x.count(0), 1);
            due("birds", x.count(1), 0);
            due("bitter", x.bitter(0, 0) + x.bitter(1, 0), 0);
            due("watched", x.watch(0, 0, 0), 0);
            due("letters", x.count(6), 0);
        }
    }

    private static void laterTellsMore() {
        EatenByDusk x = with("i05;i07;i20;");
        due("the last tells", x.bitter(0, 0), 7);
    }

    // ---- Terms: strength, kinds, hours ----

    private static void strengthAndTaste() {
        for (int n = 0; n < 100; n++) {
            int sweet = n / 10;
            int bitter = n % 10;
            int strength = sweet > bitter ? sweet - bitter : 0;
            EatenByDusk x = with("w" + sweet + "10;i1" + bitter + ";");
            due("strength of " + sweet + " by " + bitter, x.word(0, 3), strength);
            due("all strength", x.count(4), strength);
            for (int taste = 0; taste < 10; taste++) {
                EatenByDusk y = with("w" + sweet + "10;i1" + bitter + ";bs" + taste + "00;");
                due("what taste " + taste + " would eat", y.bird(0, 4), strength >= taste ? 0 : -9);
                due("what taste " + taste + " eats", y.hour(), strength >= taste ? 1 : 0);
            }
        }
    }

    /** What a bird would eat of words of such sweetness, and eats: -9 for none. */
    private static void eats(String bird, String sweets, String others, int want) {
        StringBuilder told = new StringBuilder();
        for (char sweet : sweets.toCharArray()) {
            told.append("w").append(sweet).append("00;");
        }
        EatenByDusk x = with(told + others + bird);
        due(bird + " among " + sweets + " with " + others, x.bird(0, 4), want);
        due(bird + " among " + sweets + " with " + others + " eats", x.hour(), want == -9 ? 0 : 1);
        due("what is left then", x.left(0), bits(0, sweets.length()) - (want == -9 ? 0 : 1 << want));
    }

    private static void whichASparrowEats() {
        eats("bs000;", "375", "", 1);
        eats("bs000;", "3775", "", 1);
        eats("bs000;", "777", "", 0);
        eats("bs000;", "5737", "r100;", 3);
        eats("bs700;", "3776", "r100;", 2);
        eats("bs700;", "366", "", -9);
        eats("bs000;", "0", "", 0);
        eats("bs000;", "5", "r000;", -9);
        eats("bs000;", "0000000009", "", 9);
        eats("bs000;", "9000000009", "", 0);
    }

    private static void whichAThrushEats() {
        eats("bt000;", "375", "", 0);
        eats("bt400;", "375", "", 1);
        eats("bt400;", "3459", "", 1);
        eats("bt000;", "375", "r000;", 1);
        eats("bt500;", "44", "", -9);
        eats("bt900;", "0000000009", "", 9);
    }

    private static void whichACrowEats() {
        eats("bc000;", "735", "", 1);
        eats("bc000;", "7335", "", 1);
        eats("bc000;", "333", "", 0);
        eats("bc400;", "7365", "", 3);
        eats("bc400;", "73454", "r200;", 4);
        eats("bc800;", "77", "", -9);
        eats("bc000;", "9999999990", "", 9);
    }

    private static void whichAnOwlEats() {
        eats("bo000;", "735", "", 2);
        eats("bo400;", "7553", "", 2);
        eats("bo400;", "7543", "r200;", 1);
        eats("bo400;", "733", "", 0);
        eats("bo800;", "777", "", -9);
        eats("bo000;", "9999999999", "", 9);
    }

    private static void howOftenAGreedyOneEats() {
        int[] eaten = {0, 1, 2, 2, 2};
        int[] left = {0, 0, 0, 1, 2};
        for (int words = 0; words < 5; words++) {
            EatenByDusk x = with("bg000;" + "w500;".repeat(words));
            due("eaten of " + words, x.hour(), eaten[words]);
            due("left of " + words, x.left(0), words < 2 ? 0 : bits(2, words));
            due("how many", x.remain(), left[words]);
        }
        EatenByDusk x = with("w300;w700;w500;w500;bg000;");
        due("first", x.bird(0, 4), 1);
        due("eaten", x.hour(), 2);
        due("the strongest, then the first of the next", x.left(0), 9);
        due("one alone is to its taste", with("w300;w700;w500;bg600;").hour(), 1);
        due("one alone is not watched", with("w300;w700;r000;bg000;").hour(), 1);
    }

    private static void whichAFinchEats() {
        eats("bf000;", "9", "", 0);
        eats("bf000;", "51", "", 0);
        eats("bf000;", "51", "r000;", -9);
        eats("bf600;", "59", "", -9);
        eats("bf600;", "69", "", 0);
        EatenByDusk x = with("w500;w300;w300;w400;w900;w600;bo905;bf007;");
        due("the owl takes word 4, the finch word 0", x.hour(), 2);
        due("words 0 and 4 are gone", x.left(0), 46);
        due("of 1 and 5 the weakest", x.bird(1, 4), 1);
        x.watch(1, 1, 1);
        due("words 2 and 3 are behind ones that are left", x.bird(1, 4), 5);
        x.watch(5, 1, 1);
        due("none", x.bird(1, 4), -9);
        EatenByDusk y = with("w500;w800;w500;w900;w500;r000;r400;bs900;bf007;");
        due("the sparrow takes word 3, the finch finds none", y.hour(), 1);
        due("of two the first", y.bird(1, 4), 0);
    }

    private static void birdsByNumbers() {
        due("the thrush ahead of the finch", leftBehindHour("w500;w500;bt000;bf000;"), 0);
        due("the finch ahead of the thrush", leftBehindHour("w500;w500;w500;bf000;bt000;"), 4);
        due("word 1 is not reached", leftBehindHour("w500;w500;bf000;bt900;"), 2);
        due("word 1 is reached at once", leftBehindHour("w900;w500;bt900;bf000;"), 0);
        due("finch first", leftBehindHour("w900;w500;bf000;bt900;"), 2);
        due("four birds in an hour", with(TEN_NINES + "bg000;bg000;bg000;bg000;").hour(), 8);
        EatenByDusk x = with(TEN_NINES + "bg007;bg007;bg007;bg007;");
        due("eight", x.hour(), 8);
        due("two are left", x.hour(), 2);
        due("none is left", x.hour(), 0);
    }

    private static int leftBehindHour(String told) {
        EatenByDusk x = with(told);
        x.hour();
        return x.left(0);
    }

    private static void fromTill() {
        for (int from = 0; from < 8; from++) {
            for (int till = from; till < 8; till++) {
                EatenByDusk x = with(TEN_NINES + "bt0" + from + till + ";");
                for (int hour = 0; hour < 8; hour++) {
                    due("whatever the hour", x.bird(0, 4), Math.min(Math.max(hour - from, 0), till - from + 1));
                    boolean comes = from <= hour && hour <= till;
                    due("eaten in " + hour + " from " + from + " till " + till, x.hour(), comes ? 1 : 0);
                }
                due("at dusk", x.bird(0, 4), -9);
            }
        }
    }

    private static void watchedInTheHour() {
        for (int watched = 0; watched < 8; watched++) {
            EatenByDusk x = with("w900;bs007;");
            for (int hour = 0; hour < 8; hour++) {
                x.watch(0, hour, hour == watched ? 0 : 1);
            }
            for (int hour = 0; hour < 8; hour++) {
                due("watched in " + hour, x.word(0, 5), hour == watched ? 0 : 1);
                due("eaten in " + hour, x.hour(), hour == watched ? 1 : 0);
            }
            due("watched at dusk", x.word(0, 5), 0);
        }
    }

    // ---- II ----

    private static void leftNoMoreThanTillDusk() {
        EatenByDusk x = with(TEN_NINES + "bt007;");
        for (int hour = 0; hour <= 8; hour++) {
            for (int n = 0; n <= 8; n++) {
                due("left(" + n + ") in hour " + hour, x.left(n), bits(Math.min(hour + n, 8), 10));
            }
            due("remain() in hour " + hour, x.remain(), 2);
            x.hour();
        }
        due("left(8) of a new object", new EatenByDusk().left(8), 0);
        due("left(0) of a new object", new EatenByDusk().left(0), 0);
        due("left(0) of ten", with(TEN_NINES).left(0), 1023);
    }

    private static void hourOfGoing() {
        EatenByDusk x = with(TEN_NINES + "bt007;");
        for (int hour = 0; hour <= 8; hour++) {
            for (int word = 0; word < 10; word++) {
                int want = word >= 8 ? -9 : word < hour ? 9 : word;
                due("eaten(" + word + ") in hour " + hour, x.eaten(word), want);
            }
            x.hour();
        }
    }

    private static void meaningsLeft() {
        due("none", new EatenByDusk().meanings(), 0);
        due("each", with("w000;w001;w002;w003;w004;w005;w006;w007;w008;w009;").meanings(), 1023);
        due("the last", with("w509;").meanings(), 512);
        due("the first", with("w500;").meanings(), 1);
        due("all eaten", with("w509;bs007;").meanings(), 0);
        due("eaten in the last hour", with("w509;w508;bs077;").meanings(), 256);
        due("one of two is left", with("w509;w509;bs077;").meanings(), 512);
        due("how many of ten", with(TEN_NINES).remain(), 10);
        due("how many of none", new EatenByDusk().remain(), 0);
        due("how many at least", with(TEN_NINES + "bg004;").remain(), 0);
        due("how many but one", with(TEN_NINES + "bg003;bs044;").remain(), 1);
    }

    private static void holdsAtMost() {
        EatenByDusk x = with("w009;".repeat(10));
        due("ten of one", x.holds(512), 9);
        due("one is not there", x.holds(1), -9);
        due("one of two is not there", x.holds(513), -9);
        EatenByDusk y = with(TEN_WORDS);
        due("one of each", y.holds(1023), 0);
        due("the last", y.holds(512), 0);
        due("the first", y.holds(1), 0);
        EatenByDusk z = with("w900;w900;w900;w101;w101;w902;bs906;bs907;");
        due("of three", z.holds(1), 2);
        due("of two", z.holds(2), 1);
        due("of one", z.holds(4), 0);
        due("the least of three", z.holds(7), 0);
        due("the least of two", z.holds(3), 1);
        z.hour();
        due("of the one that is not gone", z.holds(1), 0);
        z.hour();
        due("all are gone", z.holds(1), -9);
        due("one of two is gone", z.holds(3), -9);
        due("the other", z.holds(2), 1);
        due("a new object", new EatenByDusk().holds(1023), -9);
    }

    private static void fewestBoys() {
        EatenByDusk x = with("w900;w800;w700;bf007;");
        due("of three sets of one the least bits", x.boys(4), 1);
        due("of two", x.boys(6), 1);
        due("none told", x.boys(0), 0);
        watchAllDay(x, 0);
        due("with what is watched besides", x.boys(7), 0);
        x.watch(0, 7, 0);
        due("it must be in all hours", x.boys(7), 1);
        due("fewer are better than less bits", with("w600;w200;w700;w200;bo523;bf022;").boys(10), 8);
        EatenByDusk y = with(TEN_NINES + "bg007;");
        due("all", y.boys(1023), 1023);
        due("the last", y.boys(512), 512);
        due("the first", y.boys(1), 1);
        due("none goes", with(TEN_NINES).boys(1023), 0);
        due("the last hour", with("w500;bs077;").boys(1), 1);
        due("no words", new EatenByDusk().boys(0), 0);
        hours(y, 8);
        due("all are gone, none told", y.boys(0), 0);
    }

    private static void bestHourToWatch() {
        for (int best = 0; best < 8; best++) {
            EatenByDusk x = with(TEN_NINES + "bs007;bs0" + best + best + ";");
            for (int hour = 0; hour <= 8; hour++) {
                due("two go in " + best + ", now it is " + hour, x.guard(), hour == 8 ? -9 : Math.max(best, hour));
                x.hour();
            }
        }
        EatenByDusk none = with("w500;");
        for (int hour = 0; hour <= 8; hour++) {
            due("none goes: the first", none.guard(), hour == 8 ? -9 : hour);
            none.hour();
        }
        due("of two the first", with(TEN_NINES + "bs022;bs055;").guard(), 2);
        due("a new object", new EatenByDusk().guard(), 0);
    }

    private static void winterBelowZero() {
        EatenByDusk x = with("w500;w600;w600;w900;w300;r100;r127;bs000;bf007;");
        due("without the sparrow", x.winter(0), -2);
        due("without the finch", x.winter(1), 2);
        EatenByDusk y = with(TEN_NINES + "bg007;bs900;");
        due("ten more", y.winter(0), 9);
        due("the sparrow's are eaten in any case", y.winter(1), 0);
        due("all ten", with(TEN_NINES + "bg007;").winter(0), 10);
        EatenByDusk z = with("w500;bs000;bs777;bs877;bt077;");
        due("none changes", z.winter(0), 0);
        due("the fourth", z.winter(3), 0);
        z.watch(0, 0, 1);
        due("the fourth alone eats it", z.winter(3), 1);
        hours(z, 8);
        due("at dusk", z.winter(3), 0);
        due("neither words", with("bs007;").winter(0), 0);
    }

    private static void becomesSoonest() {
        EatenByDusk x = with("w901;w902;w903;w904;w905;w906;w907;w908;w909;w900;bt007;");
        for (int n = 0; n <= 8; n++) {
            for (int meaning = n + 1; meaning <= 10; meaning++) x.row(meaning % 10);
            due("behind " + n, x.becomes(), n);
            due("it stays", x.judge(), n == 0 ? -9 : 0);
        }
        row(x, 0);
        due("never", x.becomes(), -9);
        x.judge();
        due("never none", x.becomes(), -9);
        EatenByDusk y = with("w905;bs077;");
        due("none at dusk", y.becomes(), 8);
        hours(y, 7);
        due("none at dusk", y.becomes(), 1);
        row(y, 5);
        due("now", y.becomes(), 0);
        y.hour();
        due("gone at dusk", y.becomes(), -9);
        y.judge();
        due("none now at dusk", y.becomes(), 0);
        becomesTheSame();
    }

    private static void becomesTheSame() {
        EatenByDusk x = with("w907;w907;bt033;");
        row(x, 7);
        due("one of them", x.becomes(), 4);
        row(x, 7);
        due("both: the soonest of 0 .. 3", x.becomes(), 0);
        row(x, 7);
        due("one too many", x.becomes(), -9);
        EatenByDusk y = with("w901;w902;w101;bs900;bt922;");
        row(y, 2, 1);
        due("in their order", y.becomes(), 1);
        y.judge();
        row(y, 1, 2);
        due("not in their order", y.becomes(), -9);
        due("no words", new EatenByDusk().becomes(), 0);
    }

    private static void dangerOnlyOfThoseLeft() {
        EatenByDusk x = with("w909;w900;w805;w105;bt901;bt877;");
        due("the last and the first, not one of two", x.danger(), 513);
        x.hour();
        due("gone already", x.danger(), 1);
        x.hour();
        due("one of two is left", x.danger(), 0);
        hours(x, 6);
        due("at dusk", x.danger(), 0);
        due("all", with("w001;w002;bg000;").danger(), 6);
        due("a new object", new EatenByDusk().danger(), 0);
    }

    /** By strength 9 or so the word goes in hour 0, by 1 .. 4 in hour 7, by 0 it is left. */
    private static void lastsLonger() {
        int[][] bitters = {{0, 0, 0}, {0, 5, 5}, {5, 5, 5}, {0, 5, 9}, {0, 9, 5}, {9, 9, 9}, {5, 0, 9}, {0, 0, 5}, {9, 5, 0}, {0, 4, 0}};
        int[] want = {0, 1, 0, 2, 1, 0, 2, 2, 0, 0};
        for (int i = 0; i < want.length; i++) {
            for (int ink = 0; ink < 3; ink++) {
                EatenByDusk x = with("w9" + ink + "0;bs500;bs177;");
                for (int each = 0; each < 3; each++) x.bitter(each, bitters[i][each]);
                due("lasts(0) by " + Arrays.toString(bitters[i]), x.lasts(0), want[i]);
            }
        }
        EatenByDusk x = with("w910;bs500;bs177;i15;");
        hours(x, 7);
        due("in the last hour ink 0 and 1 alike", x.lasts(0), 0);
        x.bitter(2, 9);
        due("by ink 2 it is left", x.lasts(0), 2);
        x.watch(0, 7, 1);
        x.hour();
        due("at dusk all alike", x.lasts(0), 0);
    }

    private static void lastsForItAlone() {
        EatenByDusk x = with("w800;w900;bs511;i29;");
        due("the other's ink stays as it is", x.lasts(0), 0);
        due("the stronger one", x.lasts(1), 2);
    }

    private static void mixedWithinAll() {
        EatenByDusk x = with("w900;w310;bs107;");
        int[] digits = {0, 0, 0, 30, 30, 30, 30, 30, 30, 30, 30, 30, 930};
        for (int all = 0; all <= 12; all++) {
            due("mixed(" + all + ", 0)", x.mixed(all, 0), digits[all]);
            due("mixed(" + all + ", 1)", x.mixed(all, 1), all < 3 ? 0 : all < 12 ? 1 : 2);
        }
        EatenByDusk y = with("w900;w910;w920;bs107;");
        due("below nine none", y.mixed(8, 0), 0);
        due("of three the least digits", y.mixed(9, 0), 9);
        due("two can't be", y.mixed(12, 0), 9);
        due("one is left", y.mixed(12, 1), 1);
        due("nine in the second", with("w910;bs107;").mixed(9, 0), 90);
        due("nine in the first", with("w900;bs107;").mixed(9, 0), 900);
        due("all three", with("w400;w410;w420;bs107;").mixed(12, 0), 444);
        due("all three, one less", with("w400;w410;w420;bs107;").mixed(11, 0), 44);
        due("twelve of two", with("w600;w620;bs107;").mixed(12, 0), 606);
        due("none goes", with(TEN_NINES).mixed(12, 0), 0);
        due("all ten", with(TEN_NINES).mixed(0, 1), 10);
        due("a new object", new EatenByDusk().mixed(12, 0) + new EatenByDusk().mixed(0, 1), 0);
        EatenByDusk z = with("w500;w510;bs107;i05;i15;");
        due("as told now is not counted", z.mixed(5, 1), 1);
        due("what is bitter now goes", z.mixed(5, 0), 50);
        hours(z, 8);
        due("at dusk", z.mixed(0, 1), 2);
    }

    private static void tastesThatFit() {
        for (int sweet = 0; sweet < 10; sweet++) {
            EatenByDusk x = with("w" + sweet + "00;bs377;");
            due("eaten of " + sweet, x.tastes(0, 0), bits(0, sweet + 1));
            due("left of " + sweet, x.tastes(0, 1), bits(sweet + 1, 10));
        }
        EatenByDusk x = with(TEN_NINES + "bs000;bs000;bs000;bs900;");
        due("the fourth of ten", x.tastes(3, bits(4, 10)), 1023);
        due("all ten never", x.tastes(3, 1023), 0);
        hours(x, 8);
        due("at dusk", x.tastes(0, x.left(0)), 1023);
        due("no words", with("bs007;").tastes(0, 0), 1023);
    }

    private static void kindsThatFit() {
        EatenByDusk x = with("w300;w900;w900;w100;w500;bo011;");
        int[] words = {29, 30, 23, 15, 25, 31, 0};
        int[] want = {1, 2 | 32, 4, 8, 16, 0, 0};
        for (int i = 0; i < words.length; i++) {
            due("fitting(0, " + words[i] + ")", x.fitting(0, words[i]), want[i]);
        }
        EatenByDusk y = with("w200;w100;bo000;");
        y.watch(0, 0, 1);
        due("the finch finds none", y.fitting(0, 3), 32);
        due("the others", y.fitting(0, 1), 31);
        EatenByDusk z = with(TEN_NINES + "bs900;bs900;bs900;bs900;");
        due("the fourth, not as a greedy or an owl", z.fitting(3, bits(4, 10)), 1 | 2 | 4 | 32);
        hours(z, 8);
        due("at dusk", z.fitting(3, z.left(0)), 63);
        due("no words", with("bs007;").fitting(0, 0), 63);
    }

    /** Of ten words with STRENGTH 0 .. 9 a greedy bird all day leaves as many as its TASTE tells. */
    private static void draws() {
        EatenByDusk x = with(TEN_WORDS + "bg907;");
        // The seeds by which the first z is 0, 255, 256, 2559, 2560, the greatest int, the least, -1, and -2^31 and 2559.
        int[] seeds = {634785765, 122584096, 103732453, -361928416, -380780059, -1493846240, -1512697883, 653637408, 1785555232};
        int[] first = {0, 0, 1, 9, 0, 7, 0, 7, 9};
        for (int i = 0; i < seeds.length; i++) {
            due("the draw of seed " + seeds[i], x.seeds(1, seeds[i]), first[i]);
        }
        int[] fromZero = {3, 7, 6, 9, 9, 0, 4, 7, 4, 5, 7, 9, 3, 4, 3, 6, 9, 2, 1, 0};
        int[] fromMinusOne = {1, 0, 6, 7, 8, 9, 0, 7, 7, 9, 2, 5, 7, 1, 5, 4, 8, 3, 9, 4};
        int[] sums = {0, 0};
        for (int n = 1; n <= 20; n++) {
            sums[0] += fromZero[n - 1];
            sums[1] += fromMinusOne[n - 1];
            due("seeds(" + n + ", 0)", x.seeds(n, 0), sums[0]);
            due("seeds(" + n + ", least)", x.seeds(n, Integer.MIN_VALUE), sums[0]);
            due("seeds(" + n + ", -1)", x.seeds(n, -1), sums[1]);
            due("seeds(" + n + ", greatest)", x.seeds(n, Integer.MAX_VALUE), sums[1]);
        }
    }

    private static void drawsOfAllBirds() {
        due("the first draw is bird 0's", with(TEN_WORDS + "bg907;bs900;").seeds(1, 0), 3);
        due("the second is bird 1's", with(TEN_WORDS + "bs900;bg907;").seeds(1, 0), 7);
        due("the fourth is bird 3's", with("w800;bs000;bs000;bs000;bs077;r000;").seeds(1, 0), 1);
        due("the fifth is bird 0's again", with("w800;bs077;bs000;bs000;bs000;r000;").seeds(2, 0), 1);
        due("no birds", with(TEN_NINES).seeds(20, 7), 200);
        due("no words", with("bs007;").seeds(20, 7), 0);
        due("a new object", new EatenByDusk().seeds(20, 7), 0);
        EatenByDusk x = with("w900;w900;bt000;");
        x.hour();
        due("from now", x.seeds(20, 7), 20);
        hours(x, 7);
        due("at dusk", x.seeds(20, 7), 20);
        due("at dusk", x.seeds(1, 7), 1);
    }

    private static void judged() {
        EatenByDusk x = with("w900;w901;w902;w903;w904;w905;w906;w907;w908;w909;");
        for (int length = 0; length <= 10; length++) {
            for (int i = 0; i < length; i++) x.row(i);
            due("too short: " + length, x.judge(), length == 10 ? -9 : length);
            due("none then", x.count(5), 0);
        }
        for (int place = 0; place < 10; place++) {
            for (int i = 0; i < 10; i++) x.row(i == place ? 9 - i : i);
            due("another at " + place, x.judge(), place);
        }
        judgedTooLong();
    }

    private static void judgedTooLong() {
        EatenByDusk x = with("w905;w905;bt007;");
        for (int left = 2; left >= 0; left--) {
            for (int more = 1; more <= 10 - left; more += 7) {
                for (int i = 0; i < left + more; i++) x.row(5);
                due(left + " left, " + more + " too many", x.judge(), left);
                due("none then", x.count(5), 0);
            }
            for (int i = 0; i < left; i++) x.row(5);
            due(left + " left", x.judge(), -9);
            due("none then", x.count(5), 0);
            x.hour();
        }
        row(x, 5, 4);
        due("none left, too long", x.judge(), 0);
        due("none left, none told", x.judge(), -9);
        EatenByDusk y = with("w901;w902;");
        row(y, 1, 9, 3);
        due("another ahead of too long", y.judge(), 1);
        row(y, 2);
        due("another ahead of too short", y.judge(), 0);
        due("a new object", new EatenByDusk().judge(), -9);
        EatenByDusk z = new EatenByDusk();
        z.row(0);
        due("a new object, too long", z.judge(), 0);
    }

    private static void rowOfTen() {
        EatenByDusk x = new EatenByDusk();
        for (int n = 1; n <= 10; n++) {
            due("row(" + (n - 1) + ")", x.row(n - 1), n);
            due("in the row", x.count(5), n);
        }
        due("the eleventh", x.row(0), -6);
        due("in the row", x.count(5), 10);
        x.judge();
        due("row(9)", x.row(9), 1);
    }

    // ---- image, anew, count, new objects ----

    private static void onAsThen() {
        EatenByDusk x = with("w508;w919;bs012;r011;i04;");
        x.hour();
        due("image()", x.image(), 1);
        x.hour();
        tell(x, "w700;w800;bt333;bo444;r207;i19;");
        x.bitter(0, 9);
        x.ink(0, 2);
        x.watch(0, 1, 0);
        x.watch(1, 7, 1);
        hours(x, 6);
        row(x, 1, 2, 3);
        x.letter('i');
        x.left(9);
        for (int time = 0; time < 2; time++) {
            due("on()", x.on(), 1);
            due("WORDS", x.count(0), 2);
            due("BIRDS", x.count(1), 1);
            due("HOUR", x.count(2), 1);
            due("GONE", x.count(3), 0);
            due("all STRENGTH", x.count(4), 10);
            due("BITTER", x.bitter(0, 4) * 100 + x.bitter(1, 0) * 10 + x.bitter(2, 0), 400);
            due("INK", x.word(0, 1) * 10 + x.word(1, 1), 1);
            due("WATCHED", x.watch(0, 1, 1) * 10 + x.watch(1, 7, 0), 10);
            due("not the ROW", x.count(5), 3);
            due("not the letters", x.count(6), 1);
            due("not REFUSALS", x.count(16), 1);
            due("eaten in the hour", x.hour(), 1);
            x.bitter(2, 5);
            x.watch(0, 0, 1);
            x.watch(1, 7, 1);
            x.ink(1, 0);
        }
        due("the letters go on", tell(x, "13;"), 1);
    }

    private static void onWithGone() {
        EatenByDusk x = with("w500;w900;bs007;");
        x.hour();
        x.image();
        x.anew();
        due("anew", x.left(0), 3);
        due("on()", x.on(), 1);
        due("word 1 is gone", x.left(0), 1);
    }

    private static void imagesAtTheEnds() {
        EatenByDusk x = new EatenByDusk();
        due("image() of a new object", x.image(), 0);
        tell(x, "w900;w909;bs001;i12;");
        hours(x, 8);
        due("on()", x.on(), 0);
        for (int what = 0; what <= 4; what++) {
            due("count(" + what + ")", x.count(what), 0);
        }
        due("bitter", x.bitter(1, 0), 0);
        tell(x, "w900;w909;bs001;");
        hours(x, 8);
        due("image() at dusk", x.image(), 8);
        x.anew();
        due("on()", x.on(), 8);
        due("gone", x.count(3), 2);
        due("hour()", x.hour(), -3);
        due("the next image", x.anew() * 10 + x.image(), 20);
        hours(x, 3);
        due("on the next", x.on(), 0);
        due("none is gone", x.count(3), 0);
    }

    private static void anewFromAnyHour() {
        EatenByDusk x = with("w900;w505;bs002;r103;i04;");
        for (int hour = 0; hour <= 8; hour++) {
            hours(x, hour);
            due("HOUR", x.count(2), hour);
            due("anew()", x.anew(), 2);
            due("HOUR", x.count(2), 0);
            due("gone", x.count(3), 0);
        }
        due("strength by what is bitter", x.count(4), 6);
        due("watched", x.watch(1, 3, 1), 1);
        due("ten", with(TEN_NINES).anew(), 10);
        due("none", new EatenByDusk().anew(), 0);
    }

    private static void counts() {
        EatenByDusk x = with(TEN_WORDS + "bs907;bs901;bs800;bs077;i01;");
        int[][] want = {{10, 4, 0, 0, 36}, {10, 4, 1, 1, 28}, {10, 4, 2, 1, 28}};
        for (int[] counts : want) {
            for (int what = 0; what < 5; what++) {
                due("count(" + what + ")", x.count(what), counts[what]);
            }
            x.hour();
            if (x.count(2) == 1) x.bitter(0, 1);
        }
        int[] others = {Integer.MIN_VALUE, -9, -6, -1, 7, 8, 9, 10, 17, 18, 100, Integer.MAX_VALUE};
        for (int what : others) {
            due("count(" + what + ")", x.count(what), -9);
        }
        due("others are no refusals", x.count(11) + x.count(12) + x.count(14) + x.count(16), 0);
        due("-5 there is none", x.count(15), 0);
    }

    private static void aNewObject() {
        EatenByDusk x = new EatenByDusk();
        for (int what = 0; what <= 6; what++) due("count(" + what + ")", x.count(what), 0);
        for (int what = 11; what <= 16; what++) due("count(" + what + ")", x.count(what), 0);
        due("word(0, 0)", x.word(0, 0), -1);
        due("bird(0, 0)", x.bird(0, 0), -1);
        due("left(0)", x.left(0), 0);
        due("left(8)", x.left(8), 0);
        due("on()", x.on(), -3);
        due("hour()", x.hour(), 0);
        due("HOUR", x.count(2), 1);
        EatenByDusk other = new EatenByDusk();
        due("another is not touched", other.count(2) + other.count(11), 0);
    }

    private static void whatTheyWere() {
        EatenByDusk x = with("w900;w910;w920;i29;");
        int[] was = {0, 0, 9};
        for (int ink = 0; ink < 3; ink++) {
            for (int v = 0; v < 10; v++) {
                due("bitter(" + ink + ", " + v + ")", x.bitter(ink, v), v == 0 ? was[ink] : v - 1);
                due("strength", x.word(ink, 3), 9 - v);
            }
        }
        for (int word = 0; word < 3; word++) {
            for (int ink = 0; ink < 3; ink++) {
                due("ink(" + word + ", " + ink + ")", x.ink(word, ink), ink == 0 ? word : ink - 1);
                due("INK", x.word(word, 1), ink);
            }
        }
        int[] is = {0, 1, 1, 0, 0};
        int[] watched = {0, 0, 1, 1, 0};
        for (int i = 0; i < is.length; i++) {
            due("watch(2, 7, " + is[i] + ")", x.watch(2, 7, is[i]), watched[i]);
            due("watch(0, 0, " + is[i] + ")", x.watch(0, 0, is[i]), watched[i]);
        }
    }

    private static void oneCallBehindAnother() {
        EatenByDusk x = with("w900;bs077;");
        due("winter's refusal", x.winter(1), 1000000001);
        due("is counted as -1", x.count(11), 1);
        due("winter's answer is no refusal", x.winter(0), 1);
        due("counted", x.count(11), 1);
    }

    private static void terms() {
        test("WORDS 0 .. 9 as they come (10 at most)", BoundaryTests::words);
        test("BIRDS 0 .. 3 as they come (4 at most)", BoundaryTests::birds);
        test("SWEET (0 .. 9), INK (0 .. 2), MEANING (0 .. 9)", BoundaryTests::numbersOfWords);
        test("KIND, TASTE (0 .. 9), FROM and TILL (HOURS 0 .. 7, FROM not above TILL)", BoundaryTests::numbersOfBirds);
        test("\"i\" an INK, BITTER (a digit each)", BoundaryTests::numbersOfInks);
        test("\"r\" a WORD, FROM, TILL (a digit each)", BoundaryTests::numbersOfWatching);
        test("BITTER (0 .. 9; 0 at first) of each INK", BoundaryTests::bitterAtFirst);
        test("HOUR (0 .. 8: 0 at first; 8 is dusk)", BoundaryTests::hoursOfADay);
        test("WATCHED: of each HOUR WORDS (bits; none at first)", BoundaryTests::watchedAtFirst);
        test("WATCHED: none at first, behind on() neither", BoundaryTests::watchedAtFirstBehindOn);
        test("GONE or not (at first not)", BoundaryTests::goneAtFirst);
    }

    private static void texts() {
        test("letters, one by one (80 at most)", BoundaryTests::eightyLetters);
        test("A letter (0 .. 255) comes", BoundaryTests::eachLetterMayCome);
        test("the first letter with which no TEXT can go on", BoundaryTests::lettersThatGoOn);
        test("STATEMENTS: w, b, i, r", BoundaryTests::lettersThatBegin);
        test("(the end, if something lacks)", BoundaryTests::somethingLacks);
        test("At least one STATEMENT", BoundaryTests::atLeastOneStatement);
        test("-1000 less the place, -2000 less the place", BoundaryTests::farPlaces);
        test("FAULT: kind 1; else kind 2", BoundaryTests::kindOneIsFirst);
        test("the first STATEMENT that is not as it must be", BoundaryTests::firstUnfitStatement);
        test("no such WORD ahead of it", BoundaryTests::wordAheadOfIt);
        test("it is WATCHED in these HOURS, too", BoundaryTests::watchedToo);
        test("Without FAULT all of it comes, with one nothing", BoundaryTests::nothingWithFault);
        test("BITTER of an INK told twice", BoundaryTests::laterTellsMore);
    }

    private static void days() {
        test("STRENGTH: 0 at least; TASTE at least", BoundaryTests::strengthAndTaste);
        test("s SPARROW: the one of greatest STRENGTH, of several the first", BoundaryTests::whichASparrowEats);
        test("t THRUSH: the first", BoundaryTests::whichAThrushEats);
        test("c CROW: the one of least STRENGTH, of several the first", BoundaryTests::whichACrowEats);
        test("o OWL: the last", BoundaryTests::whichAnOwlEats);
        test("g GREEDY: as a SPARROW, then once more", BoundaryTests::howOftenAGreedyOneEats);
        test("f FINCH: only WORD 0 and those ahead of which the WORD is GONE", BoundaryTests::whichAFinchEats);
        test("BIRDS by numbers eat (what is eaten is GONE at once)", BoundaryTests::birdsByNumbers);
        test("each of whom FROM .. TILL has it", BoundaryTests::fromTill);
        test("not WATCHED in the HOUR; at dusk 0", BoundaryTests::watchedInTheHour);
    }

    private static void inMind() {
        test("LEFT behind n HOURS (no more than till dusk)", BoundaryTests::leftNoMoreThanTillDusk);
        test("EATEN: -9 it is left at dusk; 9 it is GONE already", BoundaryTests::hourOfGoing);
        test("MEANINGS left at dusk (bits); SHORT: how many", BoundaryTests::meaningsLeft);
        test("HOLDS: the greatest number; -9 one of them is not there", BoundaryTests::holdsAtMost);
        test("BOYS: the fewest WORDS (of several sets the least bits)", BoundaryTests::fewestBoys);
        test("GUARD: of several the first; -9 it is dusk", BoundaryTests::bestHourToWatch);
        test("WINTER: (may be below 0)", BoundaryTests::winterBelowZero);
        test("BECOMES: (0 the soonest); -9 never till dusk", BoundaryTests::becomesSoonest);
        test("DANGER: though one is left now", BoundaryTests::dangerOnlyOfThoseLeft);
        test("LASTS: (left at dusk: later than any), of several the least", BoundaryTests::lastsLonger);
        test("LASTS: (told for it alone)", BoundaryTests::lastsForItAlone);
        test("MIXED: no more than told (0 .. 12; 9 at most each), of several the least as digits", BoundaryTests::mixedWithinAll);
        test("TASTES (bits 0 .. 9)", BoundaryTests::tastesThatFit);
        test("FITTING: KINDS (bits 0 .. 5)", BoundaryTests::kindsThatFit);
        test("A DRAW below m; n days (1 .. 20)", BoundaryTests::draws);
        test("TASTES of all BIRDS by numbers are DRAWS", BoundaryTests::drawsOfAllBirds);
        test("JUDGED: the first that is not so; too short; too long; else -9", BoundaryTests::judged);
        test("a ROW of MEANINGS (0 .. 9; 10 at most)", BoundaryTests::rowOfTen);
    }

    private static void theRest() {
        test("ON from it all these are as then (not the ROW, letters, REFUSALS)", BoundaryTests::onAsThen);
        test("who is GONE, HOUR", BoundaryTests::onWithGone);
        test("THE IMAGE is taken: HOUR", BoundaryTests::imagesAtTheEnds);
        test("HOUR is 0, nothing GONE: how many WORDS", BoundaryTests::anewFromAnyHour);
        test("-9 for another what", BoundaryTests::counts);
        test("No WORDS, no BIRDS", BoundaryTests::aNewObject);
        test("what it was", BoundaryTests::whatTheyWere);
        test("Of winter() REFUSALS are 1000000000 less them", BoundaryTests::oneCallBehindAnother);
    }

    public static void main(String[] args) {
        terms();
        texts();
        days();
        inMind();
        theRest();
        System.out.println("BoundaryTests: " + sentences + " sentences, " + looked + " answers looked at, " + wrong + " not as due");
        if (wrong != 0) System.exit(1);
    }
}
