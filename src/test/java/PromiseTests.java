/** For each promise of ../shared/DOC.md the ordinary, the edges and the refusals; what is due was worked out by hand. */
public final class PromiseTests {
    private static int checked = 0;
    private static int wrong = 0;
    private static int promise = 0;

    private static void due(String call, int got, int want) {
        checked++;
        if (got == want) return;
        wrong++;
        System.out.println("promise " + promise + ": " + call + " answered " + got + ", due is " + want);
    }

    private static void letters(EatenByDusk x, String told) {
        for (int i = 0; i < told.length(); i++) {
            x.letter(told.charAt(i));
        }
    }

    private static int tell(EatenByDusk x, String told) {
        letters(x, told);
        return x.text();
    }

    private static EatenByDusk with(String told) {
        EatenByDusk x = new EatenByDusk();
        int statements = told.length() - told.replace(";", "").length();
        due("text() of " + told, tell(x, told), statements);
        return x;
    }

    private static void hours(EatenByDusk x, int n) {
        for (int i = 0; i < n; i++) {
            x.hour();
        }
    }

    private static void row(EatenByDusk x, int... meanings) {
        for (int meaning : meanings) {
            x.row(meaning);
        }
    }

    /** Of REFUSALS -1 .. -6 how many there were. */
    private static void refused(EatenByDusk x, int... counts) {
        for (int i = 0; i < 6; i++) {
            due("count(" + (11 + i) + ")", x.count(11 + i), counts[i]);
        }
    }

    private static void aNewObject() {
        promise = 1;
        EatenByDusk x = new EatenByDusk();
        for (int what = 0; what <= 6; what++) {
            due("count(" + what + ")", x.count(what), 0);
        }
        refused(x, 0, 0, 0, 0, 0, 0);
        due("word(0, 0)", x.word(0, 0), -1);
        due("bird(0, 0)", x.bird(0, 0), -1);
        for (int ink = 0; ink < 3; ink++) {
            due("bitter", x.bitter(ink, 0), 0);
        }
        due("on()", x.on(), -3);
    }

    private static void letter() {
        promise = 2;
        EatenByDusk x = new EatenByDusk();
        due("letter(0)", x.letter(0), 1);
        due("letter(255)", x.letter(255), 2);
        due("letter(256)", x.letter(256), -6);
        due("letter(-1)", x.letter(-1), -4);
        due("letter(least)", x.letter(Integer.MIN_VALUE), -4);
        due("letter(greatest)", x.letter(Integer.MAX_VALUE), -6);
        for (int n = 3; n <= 80; n++) {
            due("letter(119)", x.letter(119), n);
        }
        due("letter, 81st", x.letter(119), -6);
        due("letter(-1), no room", x.letter(-1), -4);
        due("letters", x.count(6), 80);
        refused(x, 0, 0, 0, 3, 0, 3);
        due("text()", x.text(), -1000);
        due("letter again", x.letter(119), 1);
    }

    private static void text() {
        promise = 3;
        EatenByDusk x = new EatenByDusk();
        String[] misspelt = {"", "x", "W500;", "w", "w5000;", "w50;", "w500", "w500;w", "w500;;", "w500; ", "ws00;", "w5a0;",
            "b", "bx000;", "bs0;", "bs00;", "bs0000", "bS000;", "i0;", "i00", "i000;", "r00;", "r000", "r0000;", "w530;x", "5",
            ";", "w500;i00;r0:0;", "w500;r012;bsw00;"};
        int[] place = {0, 0, 0, 1, 4, 3, 4, 6, 5, 5, 1, 2, 1, 1, 3, 4, 5, 1, 2, 3, 3, 3, 4, 4, 5, 0, 0, 11, 12};
        for (int i = 0; i < misspelt.length; i++) {
            due("text() of " + misspelt[i], tell(x, misspelt[i]), -1000 - place[i]);
            due("letters behind " + misspelt[i], x.count(6), 0);
            due("words behind " + misspelt[i], x.count(0), 0);
        }
        String[] unfit = {"w530;", "w590;", "w529;w030;", "i30;", "i99;", "i29;i30;", "r000;", "w500;r100;", "w500;r007;r008;",
            "w500;r001;r021;", "r000;w500;", "bs021;", "bs008;", "bs088;", "bs000;bs010;", "bs989;", "i09;w530;i30;"};
        int[] first = {0, 0, 5, 0, 0, 4, 0, 5, 10, 10, 0, 0, 0, 0, 6, 0, 4};
        for (int i = 0; i < unfit.length; i++) {
            due("text() of " + unfit[i], tell(x, unfit[i]), -2000 - first[i]);
            due("words behind " + unfit[i], x.count(0), 0);
        }
        due("bitter(0) as before", x.bitter(0, 0), 0);
        due("bitter(2) as before", x.bitter(2, 0), 0);
        due("birds", x.count(1), 0);
        refused(x, 0, 0, 0, 0, 0, 0);
        due("all statements", tell(x, "w929;r007;bf907;i29;"), 4);
        due("sweet", x.word(0, 0), 9);
        due("ink", x.word(0, 1), 2);
        due("meaning", x.word(0, 2), 9);
        due("bitter", x.bitter(2, 0), 9);
        due("kind", x.bird(0, 0), 5);
        due("taste", x.bird(0, 1), 9);
        due("from", x.bird(0, 2), 0);
        due("till", x.bird(0, 3), 7);
        due("watched in the first hour", x.watch(0, 0, 1), 1);
        due("watched in the last hour", x.watch(0, 7, 1), 1);
        due("a word of an earlier text", tell(x, "r000;"), 1);
        due("no word is watched by an ink's statement", with("w500;i03;").watch(0, 3, 0), 0);
        textRoom();
        textAtEighty();
    }

    private static void textRoom() {
        EatenByDusk x = with("w100;w100;w100;w100;w100;w100;w100;w100;w100;");
        due("one word too many", tell(x, "w200;w300;"), -2005);
        due("nothing came", x.count(0), 9);
        due("the tenth", tell(x, "w200;r900;"), 2);
        due("no room", tell(x, "i09;w200;"), -2004);
        due("bitter as before", x.bitter(0, 0), 0);
        due("four birds", tell(x, "bs000;bt000;bc000;bo000;"), 4);
        due("no room", tell(x, "bs000;"), -2000);
        due("birds", x.count(1), 4);
        due("five birds in one text", tell(new EatenByDusk(), "bs000;bt000;bc000;bo000;bg000;"), -2024);
        due("eleven words in one text", tell(new EatenByDusk(), "w500;".repeat(11)), -2050);
    }

    private static void textAtEighty() {
        EatenByDusk x = new EatenByDusk();
        due("eighty letters", tell(x, "i00;".repeat(20)), 20);
        due("eighty, one lacks", tell(x, "i00;".repeat(19) + "w500"), -1080);
        due("two kinds of watched are joined", tell(x, "w500;r012;r045;"), 3);
        int[] watched = {0, 1, 1, 0, 1, 1, 0, 0};
        for (int hour = 0; hour < 8; hour++) {
            due("watched", x.watch(0, hour, 0), watched[hour]);
        }
    }

    private static void word() {
        promise = 4;
        EatenByDusk x = with("w901;w512;w327;i14;i29;r111;bs907;");
        int[][] want = {{9, 0, 1, 9, 0, 0}, {5, 1, 2, 1, 0, 0}, {3, 2, 7, 0, 0, 0}};
        for (int word = 0; word < 3; word++) {
            for (int what = 0; what < 6; what++) {
                due("word(" + word + ", " + what + ")", x.word(word, what), want[word][what]);
            }
        }
        x.hour();
        due("gone", x.word(0, 4), 1);
        due("strength of a gone one", x.word(0, 3), 9);
        due("watched in this hour", x.word(1, 5), 1);
        x.hour();
        due("watched no more", x.word(1, 5), 0);
        tell(x, "r107;");
        due("watched", x.word(1, 5), 1);
        hours(x, 6);
        due("at dusk", x.word(1, 5), 0);
        due("word(3, 0)", x.word(3, 0), -1);
        due("word(-1, 0)", x.word(-1, 0), -1);
        due("word(3, 6)", x.word(3, 6), -1);
        due("word(2, 6)", x.word(2, 6), -2);
        due("word(0, -1)", x.word(0, -1), -2);
        refused(x, 3, 2, 0, 0, 0, 0);
    }

    private static void bird() {
        promise = 5;
        EatenByDusk x = with("w500;w800;w800;w300;w300;bs137;bt447;bc311;bo102;");
        int[][] want = {{0, 1, 3, 7, 1}, {1, 4, 4, 7, 0}, {2, 3, 1, 1, 3}, {3, 1, 0, 2, 4}};
        for (int bird = 0; bird < 4; bird++) {
            for (int what = 0; what < 5; what++) {
                due("bird(" + bird + ", " + what + ")", x.bird(bird, what), want[bird][what]);
            }
        }
        x.watch(1, 0, 1);
        due("a watched one is not eaten", x.bird(0, 4), 2);
        x.watch(4, 0, 1);
        due("owl", x.bird(3, 4), 3);
        due("bird(4, 0)", x.bird(4, 0), -1);
        due("bird(-1, 9)", x.bird(-1, 9), -1);
        due("bird(0, 5)", x.bird(0, 5), -2);
        due("bird(3, -1)", x.bird(3, -1), -2);
        refused(x, 2, 2, 0, 0, 0, 0);
        EatenByDusk y = with("w500;w200;w200;w900;bg607;bf007;r211;");
        due("greedy's kind", y.bird(0, 0), 4);
        due("greedy's first", y.bird(0, 4), 3);
        due("finch's kind", y.bird(1, 0), 5);
        due("only word 0", y.bird(1, 4), 0);
        y.watch(0, 0, 1);
        due("none", y.bird(1, 4), -9);
        y.hour();
        due("the greedy one ate word 3", y.left(0), 7);
        due("none to its taste", y.bird(0, 4), -9);
        y.hour();
        due("words left", y.left(0), 6);
        due("the one behind a gone one", y.bird(1, 4), 1);
        hours(y, 6);
        due("at dusk", y.bird(1, 4), -9);
        EatenByDusk z = with("w500;w900;bf407;");
        z.hour();
        due("finch of taste 4", z.bird(0, 4), 1);
        z.bitter(0, 6);
        due("strength 3 is below 4", z.bird(0, 4), -9);
        z.bitter(0, 5);
        due("strength 4 is not", z.bird(0, 4), 1);
    }

    private static void bitter() {
        promise = 6;
        EatenByDusk x = with("w700;w710;w720;");
        due("bitter(1, 4)", x.bitter(1, 4), 0);
        due("bitter(1, 9)", x.bitter(1, 9), 4);
        due("strength", x.word(0, 3) * 100 + x.word(1, 3) * 10 + x.word(2, 3), 707);
        due("bitter(2, 0)", x.bitter(2, 0), 0);
        due("bitter(1, 0)", x.bitter(1, 0), 9);
        due("bitter(3, 0)", x.bitter(3, 0), -1);
        due("bitter(-1, 10)", x.bitter(-1, 10), -1);
        due("bitter(0, -1)", x.bitter(0, -1), -4);
        due("bitter(0, 10)", x.bitter(0, 10), -6);
        due("as before", x.bitter(0, 0), 0);
        refused(x, 2, 0, 0, 1, 0, 1);
    }

    private static void ink() {
        promise = 7;
        EatenByDusk x = with("w700;w710;i23;");
        due("ink(1, 2)", x.ink(1, 2), 1);
        due("ink(1, 2)", x.ink(1, 2), 2);
        due("its strength", x.word(1, 3), 4);
        due("the other's ink", x.word(0, 1), 0);
        due("ink(2, 0)", x.ink(2, 0), -1);
        due("ink(-1, 0)", x.ink(-1, 0), -1);
        due("ink(0, 3)", x.ink(0, 3), -1);
        due("ink(0, -1)", x.ink(0, -1), -1);
        due("as before", x.word(0, 1), 0);
        refused(x, 4, 0, 0, 0, 0, 0);
    }

    private static void watch() {
        promise = 8;
        EatenByDusk x = with("w700;w710;bs007;");
        due("watch", x.watch(1, 7, 1), 0);
        due("watch", x.watch(1, 7, 1), 1);
        due("another word", x.watch(0, 7, 0), 0);
        due("another hour", x.watch(1, 6, 0), 0);
        due("no more", x.watch(1, 7, 0), 1);
        due("no more", x.watch(1, 7, 0), 0);
        due("watch now", x.watch(0, 0, 1), 0);
        due("hour()", x.hour(), 1);
        due("left", x.left(0), 1);
        due("watch(2, -1, 2)", x.watch(2, -1, 2), -1);
        due("watch(-1, 0, 0)", x.watch(-1, 0, 0), -1);
        due("watch(0, -1, 2)", x.watch(0, -1, 2), -4);
        due("watch(0, 8, 2)", x.watch(0, 8, 2), -6);
        due("watch(0, 0, 2)", x.watch(0, 0, 2), -2);
        due("watch(0, 0, -1)", x.watch(0, 0, -1), -2);
        due("as before", x.watch(0, 0, 1), 1);
        refused(x, 2, 2, 0, 1, 0, 1);
    }

    private static void hour() {
        promise = 9;
        EatenByDusk x = with("w500;w800;w800;w300;w300;w400;bs111;bt400;bc022;bo033;");
        due("only the thrush comes", x.hour(), 1);
        due("the first", x.left(0), 62);
        due("only the sparrow comes", x.hour(), 1);
        due("the strongest, the first of two", x.left(0), 60);
        due("only the crow comes", x.hour(), 1);
        due("the weakest, the first of two", x.left(0), 52);
        due("only the owl comes", x.hour(), 1);
        due("the last", x.left(0), 20);
        due("none comes", x.hour(), 0);
        due("HOUR", x.count(2), 5);
        hours(x, 3);
        due("HOUR", x.count(2), 8);
        due("dusk", x.hour(), -3);
        due("HOUR", x.count(2), 8);
        refused(x, 0, 0, 1, 0, 0, 0);

        EatenByDusk y = with("w500;w900;w900;bg607;bs001;");
        due("greedy ones eat twice, then the sparrow", y.hour(), 3);
        due("none is left", y.hour(), 0);
        EatenByDusk z = with("w500;w900;w700;bg600;bs600;");
        due("the sparrow finds none", z.hour(), 2);
        due("left", z.left(0), 1);
        EatenByDusk f = with("w900;w500;w100;w000;bt900;bf007;");
        due("what is gone is gone at once", f.hour(), 2);
        due("left", f.left(0), 12);
        due("finch", f.hour(), 1);
        due("finch", f.hour(), 1);
        due("finch", f.hour(), 0);
        EatenByDusk w = with("w500;w600;w700;w100;r000;r200;bf007;bo600;");
        due("finch finds none, owl skips the watched and the weak", w.hour(), 1);
        due("left", w.left(0), 13);
        due("finch: of words 0 and 2 the weaker; owl: word 2", w.hour(), 1);
        due("left", w.left(0), 12);
    }

    private static void anew() {
        promise = 10;
        EatenByDusk x = with("w500;w900;bs002;r111;i04;");
        hours(x, 3);
        due("gone", x.count(3), 2);
        x.row(3);
        x.letter(119);
        due("anew()", x.anew(), 2);
        due("HOUR", x.count(2), 0);
        due("gone", x.count(3), 0);
        due("left", x.left(0), 3);
        due("watched as before", x.watch(1, 1, 1), 1);
        due("bitter as before", x.bitter(0, 4), 4);
        due("row as before", x.count(5), 1);
        due("letters as before", x.count(6), 1);
        due("no words", new EatenByDusk().anew(), 0);
    }

    private static void left() {
        promise = 11;
        EatenByDusk x = with("w500;w900;w700;bs013;");
        int[] want = {7, 7, 5, 1, 0, 0, 0, 0, 0};
        for (int n = 0; n <= 8; n++) {
            due("left(" + n + ")", x.left(n), want[n]);
        }
        due("nothing went by", x.count(2) + x.count(3), 0);
        due("left(-1)", x.left(-1), -4);
        due("left(9)", x.left(9), -6);
        hours(x, 2);
        due("left(0)", x.left(0), 5);
        due("left(1)", x.left(1), 1);
        due("no more than till dusk", x.left(8), 0);
        refused(x, 0, 0, 0, 1, 0, 1);
    }

    private static void eaten() {
        promise = 12;
        EatenByDusk x = with("w500;w900;w700;bs613;bt077;");
        due("eaten(0)", x.eaten(0), 7);
        due("eaten(1)", x.eaten(1), 1);
        due("eaten(2)", x.eaten(2), 2);
        hours(x, 2);
        due("gone already", x.eaten(1), 9);
        due("goes now", x.eaten(2), 2);
        x.watch(0, 7, 1);
        due("left at dusk", x.eaten(0), -9);
        due("eaten(3)", x.eaten(3), -1);
        due("eaten(-1)", x.eaten(-1), -1);
        hours(x, 6);
        due("left at dusk", x.eaten(0), -9);
        due("gone", x.eaten(2), 9);
        refused(x, 2, 0, 0, 0, 0, 0);
    }

    private static void meanings() {
        promise = 13;
        EatenByDusk x = with("w503;w909;w703;w100;bs613;");
        due("meanings()", x.meanings(), 1 | 8);
        x.watch(1, 1, 1);
        x.watch(1, 2, 1);
        x.watch(1, 3, 1);
        due("meanings()", x.meanings(), 1 | 8 | 512);
        due("nothing went by", x.count(2), 0);
        due("none", new EatenByDusk().meanings(), 0);
    }

    private static void remain() {
        promise = 14;
        EatenByDusk x = with("w503;w909;w703;w100;bs613;bt377;");
        due("remain()", x.remain(), 1);
        x.bitter(0, 1);
        due("remain()", x.remain(), 1);
        x.bitter(0, 3);
        due("remain()", x.remain(), 2);
        x.bitter(0, 4);
        due("remain()", x.remain(), 3);
        hours(x, 8);
        due("at dusk", x.remain(), 3);
        x.anew();
        due("anew", x.remain(), 3);
        due("none", new EatenByDusk().remain(), 0);
    }

    private static void holds() {
        promise = 15;
        EatenByDusk x = with("w901;w501;w101;w202;w202;w309;bs900;bo003;");
        due("holds(2)", x.holds(2), 2);
        due("holds(4)", x.holds(4), 1);
        due("holds(6)", x.holds(6), 1);
        due("holds(512)", x.holds(512), 0);
        due("holds(518)", x.holds(518), 0);
        due("one is not there", x.holds(3), -9);
        due("holds(1)", x.holds(1), -9);
        due("holds(1023)", x.holds(1023), -9);
        due("none", x.holds(0), -1);
        due("1024", x.holds(1024), -1);
        due("below", x.holds(-1), -1);
        due("least", x.holds(Integer.MIN_VALUE), -1);
        x.hour();
        due("of those not gone", x.holds(2), 1);
        due("gone, so not there", x.holds(512), -9);
        refused(x, 4, 0, 0, 0, 0, 0);
    }

    private static void boys() {
        promise = 16;
        EatenByDusk x = with("w900;w800;w700;bf007;bs900;");
        due("none told", x.boys(0), 0);
        due("boys(1)", x.boys(1), 1);
        due("the finch waits behind word 0", x.boys(7), 1);
        due("boys(6)", x.boys(6), 1);
        due("boys(8)", x.boys(8), -1);
        due("boys(-1)", x.boys(-1), -1);
        x.watch(0, 0, 1);
        due("still", x.boys(7), 1);
        for (int hour = 1; hour < 8; hour++) {
            x.watch(0, hour, 1);
        }
        due("all are watched already", x.boys(7), 0);

        EatenByDusk y = with("w500;w500;w500;w500;bs007;");
        due("all must be watched", y.boys(15), 15);
        due("boys(10)", y.boys(10), 10);
        y.hour();
        due("gone", y.boys(1), -3);
        due("gone, too", y.boys(15), -3);
        due("no such word before gone", y.boys(17), -1);
        due("boys(10)", y.boys(10), 10);
        refused(y, 1, 0, 2, 0, 0, 0);

        EatenByDusk z = with("w100;w200;w300;bf007;i09;");
        z.watch(0, 0, 1);
        due("either of two keeps word 2: the least bits", z.boys(4), 1);
        z.hour();
        z.hour();
        due("word 0 is gone", z.left(0), 6);
        due("word 1 ahead of word 2", z.boys(4), 2);
        due("both", z.boys(6), 2);
        hours(z, 6);
        due("at dusk none are needed", z.boys(z.left(0)), 0);
    }

    private static void guard() {
        promise = 17;
        EatenByDusk x = with("w500;w500;w500;w500;w500;bs007;bs123;bs333;");
        due("guard()", x.guard(), 0);
        EatenByDusk y = with("w500;w500;w500;w500;w500;bs022;bs122;bg055;bs055;");
        due("three would go in hour 5", y.guard(), 5);
        y.watch(0, 5, 1);
        y.watch(1, 5, 1);
        y.watch(2, 5, 1);
        due("with what is watched besides", y.guard(), 2);
        hours(y, 3);
        due("from now", y.guard(), 5);
        hours(y, 3);
        due("none goes: the first", y.guard(), 6);
        hours(y, 2);
        due("dusk", y.guard(), -9);
        due("no words", new EatenByDusk().guard(), 0);
        refused(y, 0, 0, 0, 0, 0, 0);
    }

    private static void winter() {
        promise = 18;
        EatenByDusk x = with("w100;w900;w500;bt000;bf007;bs900;");
        due("without the thrush the finch eats all the same", x.winter(0), 0);
        due("without the finch", x.winter(1), 1);
        due("without the sparrow", x.winter(2), 0);
        EatenByDusk y = with("w300;w900;bo000;bg101;r100;");
        due("two go in any case", y.winter(0), 0);
        due("one more without the greedy one", y.winter(1), 1);
        x.hour();
        due("words 0 and 1 are gone", x.left(0), 4);
        due("without the finch", x.winter(1), 1);
        due("winter(3)", x.winter(3), 1000000001);
        due("winter(-1)", x.winter(-1), 1000000001);
        due("nothing changed", x.count(1), 3);
        refused(x, 2, 0, 0, 0, 0, 0);
        winterBelow();
    }

    /** Word 1 may be eaten in hour 1 alone; the sparrow lays word 4 open, and the finch comes late to word 0. */
    private static void winterBelow() {
        EatenByDusk x = with("w500;w600;w600;w900;w300;r100;r127;bs000;bf007;");
        due("remain()", x.remain(), 2);
        due("without the sparrow", x.winter(0), -2);
        due("without the finch", x.winter(1), 2);
    }

    private static void becomes() {
        promise = 19;
        EatenByDusk x = with("w903;w501;w702;w101;bs203;");
        row(x, 3, 1, 2, 1);
        due("the soonest", x.becomes(), 0);
        due("it stays", x.count(5), 4);
        x.hour();
        due("behind none", x.becomes(), -9);
        due("judge()", x.judge(), 0);
        row(x, 1, 2, 1);
        due("now", x.becomes(), 0);
        x.judge();
        row(x, 1, 1);
        due("becomes()", x.becomes(), 1);
        x.row(1);
        due("too long", x.becomes(), -9);
        x.judge();
        x.row(1);
        due("becomes()", x.becomes(), 2);
        x.row(2);
        due("not in their order", x.becomes(), -9);
        x.judge();
        due("never none", x.becomes(), -9);
        EatenByDusk y = with("w903;bs077;");
        due("none at dusk", y.becomes(), 8);
        hours(y, 7);
        due("none at dusk", y.becomes(), 1);
        y.hour();
        due("none now", y.becomes(), 0);
        due("no words", new EatenByDusk().becomes(), 0);
    }

    private static void danger() {
        promise = 20;
        EatenByDusk x = with("w903;w501;w702;w101;w609;bs503;");
        due("danger()", x.danger(), 8 | 4 | 512);
        hours(x, 2);
        due("one must be left now", x.danger(), 512);
        x.watch(4, 2, 1);
        x.watch(4, 3, 1);
        due("danger()", x.danger(), 0);
        hours(x, 6);
        due("at dusk", x.danger(), 0);
        due("no words", new EatenByDusk().danger(), 0);
    }

    private static void lasts() {
        promise = 21;
        EatenByDusk x = with("w500;w600;w400;bs202;i11;i22;");
        due("by ink 2 it goes last", x.lasts(0), 2);
        due("by inks 1 and 2 in hour 1", x.lasts(1), 1);
        due("all the same: the least", x.lasts(2), 0);
        due("the ink stays", x.word(0, 1), 0);
        due("lasts(3)", x.lasts(3), -1);
        due("lasts(-1)", x.lasts(-1), -1);
        x.hour();
        due("gone", x.lasts(1), -3);
        x.bitter(2, 9);
        due("left at dusk is later than any", x.lasts(0), 2);
        hours(x, 7);
        due("gone", x.lasts(0), -3);
        refused(x, 2, 0, 2, 0, 0, 0);
    }

    private static void mixed() {
        promise = 22;
        EatenByDusk x = with("w500;w610;w720;bs407;");
        due("mixed(0, 0)", x.mixed(0, 0), 0);
        due("mixed(0, 1)", x.mixed(0, 1), 0);
        due("one is kept by 2", x.mixed(2, 0), 200);
        due("mixed(2, 1)", x.mixed(2, 1), 1);
        due("mixed(3, 0)", x.mixed(3, 0), 30);
        due("mixed(4, 0)", x.mixed(4, 0), 4);
        due("mixed(4, 1)", x.mixed(4, 1), 1);
        due("two by 5", x.mixed(5, 0), 230);
        due("mixed(5, 1)", x.mixed(5, 1), 2);
        due("mixed(6, 0)", x.mixed(6, 0), 204);
        due("mixed(7, 0)", x.mixed(7, 0), 34);
        due("mixed(8, 0)", x.mixed(8, 0), 34);
        due("three by 9", x.mixed(9, 0), 234);
        due("mixed(9, 1)", x.mixed(9, 1), 3);
        due("mixed(12, 0)", x.mixed(12, 0), 234);
        due("mixed(12, 1)", x.mixed(12, 1), 3);
        x.bitter(0, 9);
        due("bitter is told anew", x.mixed(0, 1), 0);
        due("and stays", x.bitter(0, 0), 9);
        due("mixed(-1, 2)", x.mixed(-1, 2), -4);
        due("mixed(13, 2)", x.mixed(13, 2), -6);
        due("mixed(12, 2)", x.mixed(12, 2), -2);
        due("mixed(0, -1)", x.mixed(0, -1), -2);
        refused(x, 0, 2, 0, 1, 0, 1);
        EatenByDusk y = with("w900;w900;bs107;w910;");
        due("nine at most", y.mixed(12, 0), 900);
        due("mixed(12, 1)", y.mixed(12, 1), 2);
        EatenByDusk z = with("w920;w920;bs107;w900;");
        due("the third", z.mixed(9, 0), 9);
        due("none is eaten at dusk", z.mixed(8, 0), 0);
    }

    private static void tastes() {
        promise = 23;
        EatenByDusk x = with("w500;w700;w200;bs302;");
        due("none is eaten", x.tastes(0, 7), 768);
        due("one is", x.tastes(0, 5), 64 | 128);
        due("two are", x.tastes(0, 4), 8 | 16 | 32);
        due("all are", x.tastes(0, 0), 1 | 2 | 4);
        due("never", x.tastes(0, 3), 0);
        due("its taste stays", x.bird(0, 1), 3);
        due("tastes(0, 8)", x.tastes(0, 8), -1);
        due("tastes(0, -1)", x.tastes(0, -1), -1);
        due("tastes(1, 0)", x.tastes(1, 0), -1);
        due("tastes(-1, 0)", x.tastes(-1, 0), -1);
        x.hour();
        due("a gone one can't be left", x.tastes(0, 7), 0);
        due("tastes(0, 5)", x.tastes(0, 5), 64 | 128 | 256 | 512);
        hours(x, 7);
        due("at dusk all fit", x.tastes(0, x.left(0)), 1023);
        refused(x, 4, 0, 0, 0, 0, 0);
    }

    private static void fitting() {
        promise = 24;
        EatenByDusk x = with("w300;w900;w900;w100;w500;bo011;");
        due("sparrow", x.fitting(0, 29), 1);
        due("thrush and finch", x.fitting(0, 30), 2 | 32);
        due("crow", x.fitting(0, 23), 4);
        due("owl", x.fitting(0, 15), 8);
        due("greedy", x.fitting(0, 25), 16);
        due("none", x.fitting(0, 31), 0);
        due("its kind stays", x.bird(0, 0), 3);
        due("fitting(0, 32)", x.fitting(0, 32), -1);
        due("fitting(0, -1)", x.fitting(0, -1), -1);
        due("fitting(1, 0)", x.fitting(1, 0), -1);
        due("fitting(-1, 0)", x.fitting(-1, 0), -1);
        refused(x, 4, 0, 0, 0, 0, 0);
        hours(x, 2);
        due("all fit", x.fitting(0, 15), 63);
    }

    private static void row() {
        promise = 25;
        EatenByDusk x = new EatenByDusk();
        due("row(10)", x.row(10), -6);
        due("row(-1)", x.row(-1), -4);
        for (int n = 1; n <= 10; n++) {
            due("row", x.row(n - 1), n);
        }
        due("no room", x.row(0), -6);
        due("below before room", x.row(-1), -4);
        due("in the row", x.count(5), 10);
        refused(x, 0, 0, 0, 2, 0, 2);
    }

    private static void judge() {
        promise = 26;
        EatenByDusk x = with("w903;w501;w702;w101;bs900;");
        row(x, 3, 1, 2, 1);
        due("as it is", x.judge(), -9);
        due("the row has none", x.count(5), 0);
        due("too short", x.judge(), 0);
        row(x, 3, 1);
        due("too short", x.judge(), 2);
        row(x, 3, 1, 2, 1, 1);
        due("too long", x.judge(), 4);
        row(x, 3, 2, 1, 1);
        due("another", x.judge(), 1);
        row(x, 0, 0, 0, 0, 0, 0, 0, 0, 0, 0);
        due("the first", x.judge(), 0);
        row(x, 3, 1, 9, 1, 1);
        due("another before too long", x.judge(), 2);
        due("none then", x.count(5), 0);
        x.hour();
        row(x, 1, 2, 1);
        due("of those left now", x.judge(), -9);
        due("no words", new EatenByDusk().judge(), -9);
    }

    private static void seeds() {
        promise = 27;
        // A word of STRENGTH 5 is left when the draw is above it: from 0 these are 3, 7, 6, 9, 9, 0, 4, 7, 4, 5, ..
        EatenByDusk x = with("w500;bs077;");
        int[] want = {0, 1, 2, 3, 4, 4, 4, 5, 5, 5, 6, 7, 7, 7, 7, 8, 9, 9, 9, 9};
        for (int n = 1; n <= 20; n++) {
            due("seeds(" + n + ", 0)", x.seeds(n, 0), want[n - 1]);
        }
        due("draws 5, 6, 6", x.seeds(3, -77), 2);
        due("draws 1, 0, 6, 7, 8", x.seeds(5, -1), 3);
        due("the same", x.seeds(5, Integer.MAX_VALUE), 3);
        due("as from 0", x.seeds(20, Integer.MIN_VALUE), 9);
        due("seeds(20, 12345)", x.seeds(20, 12345), 7);
        due("the taste stays", x.bird(0, 1), 0);
        due("seeds(0, 0)", x.seeds(0, 0), -4);
        due("seeds(21, 0)", x.seeds(21, 0), -6);
        due("seeds(-5, 0)", x.seeds(-5, 0), -4);
        refused(x, 0, 0, 0, 2, 0, 1);
        hours(x, 7);
        due("from now", x.seeds(20, 12345), 7);
        x.hour();
        due("gone at dusk", x.seeds(20, 12345), 0);
        // Draws 5, 6; 6, 6; 1, 2; 4, 3; 3, 1; 0, 9; 7, 4; 7, 2; 1, 1; 8, 6: the second is the thrush's.
        EatenByDusk y = with("w300;w500;w900;bs000;bt011;");
        due("two draws a day", y.seeds(1, -77), 2);
        due("two draws a day", y.seeds(10, -77), 14);
        due("no birds", with("w300;w500;").seeds(20, 5), 40);
        due("no words", with("bs007;").seeds(20, 5), 0);
    }

    private static void image() {
        promise = 28;
        EatenByDusk x = with("w500;w900;bs002;r111;i04;");
        due("image()", x.image(), 0);
        x.hour();
        due("image() again", x.image(), 1);
        x.hour();
        due("on it", x.on(), 1);
        due("the one of then", x.left(0), 1);
        due("on it again", x.on(), 1);
        refused(x, 0, 0, 0, 0, 0, 0);
    }

    private static void on() {
        promise = 29;
        EatenByDusk x = with("w508;w918;bs002;r011;i04;");
        due("there is none", x.on(), -3);
        x.hour();
        x.image();
        tell(x, "w700;r207;bt000;i19;");
        x.bitter(0, 9);
        x.ink(0, 2);
        x.watch(0, 1, 0);
        x.watch(1, 2, 1);
        hours(x, 4);
        row(x, 1, 2, 3);
        letters(x, "w5");
        due("word(9, 0)", x.word(9, 0), -1);
        due("on()", x.on(), 1);
        due("words", x.count(0), 2);
        due("birds", x.count(1), 1);
        due("HOUR", x.count(2), 1);
        due("gone", x.left(0), 1);
        due("ink", x.word(0, 1), 0);
        due("watched", x.watch(0, 1, 1), 1);
        due("watched", x.watch(1, 2, 0), 0);
        due("bitter", x.bitter(0, 4), 4);
        due("bitter", x.bitter(1, 0), 0);
        due("the row stays", x.count(5), 3);
        due("the letters stay", x.count(6), 2);
        refused(x, 1, 0, 1, 0, 0, 0);
        x.on();
        due("the letters", tell(x, "00;"), 1);
        due("a new word is not watched", x.word(2, 5), 0);
        due("a new word's sweet", x.word(2, 0), 5);
        due("on()", x.on(), 1);
        due("the image is as it was", x.count(0), 2);
        changesBehindOn();
    }

    private static void changesBehindOn() {
        EatenByDusk x = with("w500;w900;bs107;i04;");
        x.image();
        x.on();
        x.bitter(0, 8);
        x.ink(0, 1);
        x.watch(0, 0, 1);
        hours(x, 8);
        due("on()", x.on(), 0);
        due("bitter", x.bitter(0, 4), 4);
        due("ink", x.word(0, 1), 0);
        due("watched", x.word(0, 5), 0);
        due("left", x.left(0), 3);
    }

    private static void count() {
        promise = 30;
        EatenByDusk x = with("w500;w910;w300;bs002;bt077;i04;i11;");
        row(x, 4, 4);
        letters(x, "abc");
        x.hour();
        int[] want = {3, 2, 1, 1, 1, 2, 3};
        for (int what = 0; what < 7; what++) {
            due("count(" + what + ")", x.count(what), want[what]);
        }
        int[] others = {-1, 7, 10, 17, 100, Integer.MIN_VALUE, Integer.MAX_VALUE};
        for (int what : others) {
            due("count(" + what + ")", x.count(what), -9);
        }
        x.anew();
        due("all strength", x.count(4), 9);
        refused(x, 0, 0, 0, 0, 0, 0);
        x.word(5, 0);
        x.word(0, 7);
        x.on();
        x.on();
        x.left(-1);
        x.left(9);
        x.left(10);
        x.left(11);
        refused(x, 1, 1, 2, 1, 0, 3);
    }

    public static void main(String[] args) {
        aNewObject();
        letter();
        text();
        word();
        bird();
        bitter();
        ink();
        watch();
        hour();
        anew();
        left();
        eaten();
        meanings();
        remain();
        holds();
        boys();
        guard();
        winter();
        becomes();
        danger();
        lasts();
        mixed();
        tastes();
        fitting();
        row();
        judge();
        seeds();
        image();
        on();
        count();
        System.out.println("PromiseTests: " + checked + " answers looked at, " + wrong + " not as due");
        if (wrong != 0) System.exit(1);
    }
}
