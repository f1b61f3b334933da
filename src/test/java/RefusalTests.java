import java.util.ArrayList;
import java.util.Arrays;
import java.util.List;

/**
 * For each REFUSAL of ../shared/DOC.md: its number on either side of its boundary, the order in which it is looked for,
 * that it is counted once, and that nothing else changes. Each refused call is made on one of two objects of the same
 * past; then all that can be asked of both is held side by side.
 */
public final class RefusalTests {
    private static final int LEAST = Integer.MIN_VALUE;
    private static final int GREATEST = Integer.MAX_VALUE;
    private static final int NOBODY = -1;
    private static final int OTHER = -2;
    private static final int STATE = -3;
    private static final int BELOW = -4;
    private static final int ROOM = -6;

    private static int looked = 0;
    private static int wrong = 0;

    /** What has been told to an object before the call in question. */
    private enum Past { NEW, DAY, DAY_WITHOUT_LETTERS, DUSK, ALL_FULL, LETTERS_FULL }

    private static EatenByDusk after(Past past, boolean withImage) {
        switch (past) {
            case NEW: return aNewOne(withImage);
            case DAY: return day(withImage, true);
            case DAY_WITHOUT_LETTERS: return day(withImage, false);
            case DUSK: return dusk(withImage);
            case ALL_FULL: return allFull(withImage);
            default: return lettersFull(withImage);
        }
    }

    private static EatenByDusk aNewOne(boolean withImage) {
        EatenByDusk x = new EatenByDusk();
        if (withImage) x.image();
        return x;
    }

    /** Five words of which 0, 3 and 4 are gone, three birds, HOUR 2, a row as the words left, two letters. */
    private static EatenByDusk day(boolean withImage, boolean withLetters) {
        EatenByDusk x = new EatenByDusk();
        due("the day's statements", tell(x, "w901;w512;w723;w304;w625;bs213;bt424;bo105;i12;r205;"), 10);
        refuseSome(x);
        if (withImage) x.image();
        x.bitter(2, 1);
        x.ink(3, 1);
        x.watch(4, 6, 1);
        x.watch(2, 0, 0);
        x.hour();
        x.hour();
        x.row(2);
        x.row(3);
        if (withLetters) letters(x, "i1");
        return x;
    }

    private static EatenByDusk dusk(boolean withImage) {
        EatenByDusk x = day(withImage, true);
        x.judge();
        for (int hour = 2; hour < 8; hour++) {
            x.hour();
        }
        x.row(3);
        return x;
    }

    /** Ten words, four birds, ten in the row as the words left. */
    private static EatenByDusk allFull(boolean withImage) {
        EatenByDusk x = new EatenByDusk();
        String told = "w900;w811;w722;w603;w514;w425;w306;w217;w128;w009;bs107;bt236;bc345;bg445;";
        due("statements of all that is full", tell(x, told), 14);
        for (int meaning = 0; meaning < 10; meaning++) {
            x.row(meaning);
        }
        if (withImage) x.image();
        return x;
    }

    /** Eighty letters, which are a text of ten words, three birds and three inks. */
    private static EatenByDusk lettersFull(boolean withImage) {
        EatenByDusk x = aNewOne(withImage);
        letters(x, "w900;w811;w722;w603;w514;w425;w306;w217;w128;w009;bs107;bt236;bc345;i09;i18;i27;");
        return x;
    }

    private static void letters(EatenByDusk x, String told) {
        for (int i = 0; i < told.length(); i++) {
            x.letter(told.charAt(i));
        }
    }

    private static int tell(EatenByDusk x, String told) {
        letters(x, told);
        return x.text();
    }

    /** Of -1 one, of -2 two, of -3 three, of -4 four, of -6 five. */
    private static void refuseSome(EatenByDusk x) {
        x.word(9, 0);
        for (int i = 0; i < 2; i++) x.word(0, 9);
        for (int i = 0; i < 3; i++) x.on();
        for (int i = 0; i < 4; i++) x.left(-1);
        for (int i = 0; i < 5; i++) x.left(9);
    }

    private static void due(String what, Object got, Object want) {
        looked++;
        if (got.equals(want)) return;
        wrong++;
        System.out.println(what + ": " + got + ", due is " + want);
    }

    private static int ask(EatenByDusk x, String call, int... told) {
        Class<?>[] types = new Class<?>[told.length];
        Arrays.fill(types, int.class);
        try {
            return (int) EatenByDusk.class.getMethod(call, types).invoke(x, Arrays.stream(told).boxed().toArray());
        } catch (ReflectiveOperationException e) {
            throw new IllegalStateException(call + Arrays.toString(told), e);
        }
    }

    private static void see(List<String> seen, EatenByDusk x, String call, int... told) {
        seen.add(call + Arrays.toString(told) + " answers " + ask(x, call, told));
    }

    /** Words, birds, what is watched, the bitters; behind it nothing is watched nor bitter. */
    private static void seeGarden(List<String> seen, EatenByDusk x) {
        for (int what = 0; what < 4; what++) see(seen, x, "count", what);
        int words = x.count(0);
        int birds = x.count(1);
        for (int word = 0; word < words; word++) {
            for (int what : new int[] {0, 1, 2, 4}) see(seen, x, "word", word, what);
        }
        for (int bird = 0; bird < birds; bird++) {
            for (int what = 0; what < 4; what++) see(seen, x, "bird", bird, what);
        }
        see(seen, x, "left", 8);
        for (int word = 0; word < words; word++) {
            for (int hour = 0; hour < 8; hour++) see(seen, x, "watch", word, hour, 0);
        }
        for (int ink = 0; ink < 3; ink++) see(seen, x, "bitter", ink, 0);
    }

    /** All that is kept, letters, row and image too; behind it the object is another. */
    private static List<String> everything(EatenByDusk x) {
        List<String> seen = new ArrayList<>();
        see(seen, x, "count", 5);
        see(seen, x, "count", 6);
        see(seen, x, "judge");
        seeGarden(seen, x);
        letters(x, "7;");
        see(seen, x, "text");
        see(seen, x, "on");
        seeGarden(seen, x);
        return seen;
    }

    private static int[] refusals(EatenByDusk x) {
        int[] counts = new int[6];
        for (int i = 0; i < 6; i++) {
            counts[i] = x.count(11 + i);
        }
        return counts;
    }

    /** The two are the same now but for one refusal more of a number, none if the number is 0. */
    private static void sameBut(String what, EatenByDusk x, EatenByDusk without, int number) {
        int[] counted = refusals(without);
        if (number != 0) counted[-1 - number]++;
        due("refusals behind " + what, Arrays.toString(refusals(x)), Arrays.toString(counted));
        List<String> seen = everything(x);
        List<String> due = everything(without);
        due("how much is seen behind " + what, seen.size(), due.size());
        for (int i = 0; i < Math.min(seen.size(), due.size()); i++) {
            due("behind " + what, seen.get(i), due.get(i));
        }
    }

    private static void refused(Past past, int number, String call, int... told) {
        int answer = call.equals("winter") ? 1000000000 - number : number;
        changesOnly(past, false, number, answer, call, told);
        if (!call.equals("on")) changesOnly(past, true, number, answer, call, told);
    }

    /** A call that only asks: nothing is counted and nothing changes. */
    private static void keeps(Past past, int answer, String call, int... told) {
        changesOnly(past, false, 0, answer, call, told);
        changesOnly(past, true, 0, answer, call, told);
    }

    private static void changesOnly(Past past, boolean withImage, int number, int answer, String call, int... told) {
        String what = call + Arrays.toString(told) + " (" + past + (withImage ? " with image)" : ")");
        EatenByDusk x = after(past, withImage);
        due(what, ask(x, call, told), answer);
        sameBut(what, x, after(past, withImage), number);
    }

    private static void refusedEach(Past past, int number, String call, int[] told) {
        for (int one : told) {
            refused(past, number, call, one);
        }
    }

    private static void refusedEach(Past past, int number, String call, int[] first, int[] second) {
        for (int one : first) {
            for (int other : second) {
                refused(past, number, call, one, other);
            }
        }
    }

    private static int[] these(int... numbers) {
        return numbers;
    }

    private static final int[] NO_WORD_OF_DAY = {LEAST, -1, 5, 6, 9, GREATEST};
    private static final int[] NO_BIRD_OF_DAY = {LEAST, -1, 3, 4, GREATEST};
    private static final int[] NO_BITS_OF_DAY = {LEAST, -32, -1, 32, 33, 1023, GREATEST};
    private static final int[] NO_INK = {LEAST, -1, 3, GREATEST};
    private static final int[] BELOW_0 = {LEAST, -2, -1};

    private static void letter() {
        refusedEach(Past.NEW, BELOW, "letter", BELOW_0);
        refusedEach(Past.NEW, ROOM, "letter", these(256, 257, 256 + 'w', GREATEST));
        refusedEach(Past.DAY, BELOW, "letter", BELOW_0);
        refusedEach(Past.DAY, ROOM, "letter", these(256, GREATEST));
        refusedEach(Past.LETTERS_FULL, ROOM, "letter", these(0, 'w', ';', 255, 256, GREATEST));
        refusedEach(Past.LETTERS_FULL, BELOW, "letter", BELOW_0);
    }

    private static void word() {
        refusedEach(Past.NEW, NOBODY, "word", these(LEAST, -1, 0, 1, GREATEST), these(0, 5, -1, 6));
        refusedEach(Past.DAY, NOBODY, "word", NO_WORD_OF_DAY, these(0, 4, 5, -1, 6));
        refusedEach(Past.DAY, OTHER, "word", these(0, 1, 4), these(LEAST, -1, 6, 7, GREATEST));
        refusedEach(Past.ALL_FULL, NOBODY, "word", these(-1, 10, 11), these(0, 5, 6));
        refusedEach(Past.ALL_FULL, OTHER, "word", these(9), these(-1, 6));
        refusedEach(Past.DUSK, OTHER, "word", these(4), these(-1, 6));
    }

    private static void bird() {
        refusedEach(Past.NEW, NOBODY, "bird", these(LEAST, -1, 0, 1, GREATEST), these(0, 4, -1, 5));
        refusedEach(Past.DAY, NOBODY, "bird", NO_BIRD_OF_DAY, these(0, 4, -1, 5));
        refusedEach(Past.DAY, OTHER, "bird", these(0, 2), these(LEAST, -1, 5, 6, GREATEST));
        refusedEach(Past.ALL_FULL, NOBODY, "bird", these(-1, 4, 5), these(0, 4, 5));
        refusedEach(Past.ALL_FULL, OTHER, "bird", these(3), these(-1, 5));
    }

    private static void bitter() {
        refusedEach(Past.NEW, NOBODY, "bitter", NO_INK, these(0, 9));
        refusedEach(Past.DAY, NOBODY, "bitter", NO_INK, these(0, 9, -1, 10, LEAST, GREATEST));
        refusedEach(Past.DAY, BELOW, "bitter", these(0, 1, 2), BELOW_0);
        refusedEach(Past.DAY, ROOM, "bitter", these(0, 1, 2), these(10, 11, GREATEST));
    }

    private static void ink() {
        refusedEach(Past.NEW, NOBODY, "ink", these(-1, 0), these(-1, 0, 2, 3));
        refusedEach(Past.DAY, NOBODY, "ink", NO_WORD_OF_DAY, these(0, 2, -1, 3));
        refusedEach(Past.DAY, NOBODY, "ink", these(0, 1, 4), NO_INK);
        refusedEach(Past.ALL_FULL, NOBODY, "ink", these(10), these(0, 2));
        refusedEach(Past.ALL_FULL, NOBODY, "ink", these(9), these(-1, 3));
    }

    private static void watch() {
        for (int is : new int[] {0, 1, -1, 2}) {
            for (int hour : new int[] {0, 7, -1, 8, LEAST, GREATEST}) {
                refused(Past.NEW, NOBODY, "watch", 0, hour, is);
                for (int word : NO_WORD_OF_DAY) refused(Past.DAY, NOBODY, "watch", word, hour, is);
            }
            for (int hour : BELOW_0) refused(Past.DAY, BELOW, "watch", 1, hour, is);
            for (int hour : new int[] {8, 9, GREATEST}) refused(Past.DAY, ROOM, "watch", 4, hour, is);
        }
        for (int is : new int[] {LEAST, -1, 2, 3, GREATEST}) {
            refused(Past.DAY, OTHER, "watch", 0, 0, is);
            refused(Past.DAY, OTHER, "watch", 2, 5, is);
            refused(Past.DAY, OTHER, "watch", 4, 7, is);
            refused(Past.DUSK, OTHER, "watch", 4, 7, is);
        }
        refused(Past.DUSK, ROOM, "watch", 2, 8, 1);
        refused(Past.ALL_FULL, NOBODY, "watch", 10, 0, 1);
        refused(Past.ALL_FULL, ROOM, "watch", 9, 8, 1);
    }

    private static void hour() {
        refused(Past.DUSK, STATE, "hour");
    }

    private static void inMindWithNumbers() {
        for (Past past : new Past[] {Past.NEW, Past.DAY, Past.DUSK}) {
            refusedEach(past, BELOW, "left", BELOW_0);
            refusedEach(past, ROOM, "left", these(9, 10, GREATEST));
            refusedEach(past, BELOW, "mixed", BELOW_0, these(0, 1, -1, 2));
            refusedEach(past, ROOM, "mixed", these(13, 14, GREATEST), these(0, 1, -1, 2));
            refusedEach(past, OTHER, "mixed", these(0, 12), these(LEAST, -1, 2, GREATEST));
            refusedEach(past, BELOW, "seeds", these(LEAST, -1, 0), these(0, -1));
            refusedEach(past, ROOM, "seeds", these(21, 22, GREATEST), these(0, -1));
            refusedEach(past, NOBODY, "holds", these(LEAST, -1, 0, 1024, 1025, GREATEST));
        }
        refusedEach(Past.ALL_FULL, NOBODY, "holds", these(-1, 0, 1024, 2047));
    }

    private static void inMindOfWords() {
        refusedEach(Past.NEW, NOBODY, "eaten", these(LEAST, -1, 0, GREATEST));
        refusedEach(Past.NEW, NOBODY, "lasts", these(LEAST, -1, 0, GREATEST));
        refusedEach(Past.DAY, NOBODY, "eaten", NO_WORD_OF_DAY);
        refusedEach(Past.DAY, NOBODY, "lasts", NO_WORD_OF_DAY);
        refusedEach(Past.DAY, STATE, "lasts", these(0, 3, 4));
        refusedEach(Past.DUSK, NOBODY, "eaten", these(-1, 5));
        refusedEach(Past.DUSK, STATE, "lasts", these(0, 1, 4));
        refusedEach(Past.ALL_FULL, NOBODY, "eaten", these(10));
        refusedEach(Past.ALL_FULL, NOBODY, "lasts", these(10));
        refusedEach(Past.NEW, NOBODY, "boys", these(LEAST, -1, 1, 2, 1024, GREATEST));
        refusedEach(Past.DAY, NOBODY, "boys", NO_BITS_OF_DAY);
        refusedEach(Past.DAY, STATE, "boys", these(1, 8, 16, 7, 31, 9));
        refusedEach(Past.DUSK, STATE, "boys", these(1, 2, 31));
        refusedEach(Past.ALL_FULL, NOBODY, "boys", these(-1, 1024, 2047));
    }

    private static void inMindOfBirds() {
        refusedEach(Past.NEW, NOBODY, "winter", these(LEAST, -1, 0, 1, GREATEST));
        refusedEach(Past.DAY, NOBODY, "winter", NO_BIRD_OF_DAY);
        refusedEach(Past.DUSK, NOBODY, "winter", these(-1, 3));
        refusedEach(Past.ALL_FULL, NOBODY, "winter", these(-1, 4));
        for (String call : new String[] {"tastes", "fitting"}) {
            refusedEach(Past.NEW, NOBODY, call, these(-1, 0), these(-1, 0, 1));
            refusedEach(Past.DAY, NOBODY, call, NO_BIRD_OF_DAY, these(0, 31, -1, 32));
            refusedEach(Past.DAY, NOBODY, call, these(0, 2), NO_BITS_OF_DAY);
            refusedEach(Past.ALL_FULL, NOBODY, call, these(-1, 4), these(0, 1023));
            refusedEach(Past.ALL_FULL, NOBODY, call, these(0, 3), these(-1, 1024, 2047));
        }
    }

    private static void row() {
        refusedEach(Past.NEW, BELOW, "row", BELOW_0);
        refusedEach(Past.NEW, ROOM, "row", these(10, 11, GREATEST));
        refusedEach(Past.DAY, BELOW, "row", BELOW_0);
        refusedEach(Past.DAY, ROOM, "row", these(10, 11, GREATEST));
        refusedEach(Past.ALL_FULL, ROOM, "row", these(0, 1, 9, 10, GREATEST));
        refusedEach(Past.ALL_FULL, BELOW, "row", BELOW_0);
    }

    private static void on() {
        for (Past past : Past.values()) {
            refused(past, STATE, "on");
        }
    }

    /** Of an object on which all has been refused each number is counted for itself, -5 never. */
    private static void eachNumberIsCounted() {
        EatenByDusk x = day(true, true);
        due("as told", Arrays.toString(refusals(x)), "[1, 2, 3, 4, 0, 5]");
        for (int i = 0; i < 7; i++) x.winter(3);
        due("winter's too", Arrays.toString(refusals(x)), "[8, 2, 3, 4, 0, 5]");
        x.anew();
        x.on();
        due("neither anew() nor on() takes them back", Arrays.toString(refusals(x)), "[8, 2, 3, 4, 0, 5]");
    }

    /** An object is used for 512 calls: the last of them still tells all that were refused. */
    private static void allCallsAreRefused() {
        String[] call = {"word", "word", "on", "left", "", "left"};
        int[][] told = {{0, 0}, {0, 6}, {}, {-1}, {}, {9}};
        for (int i = 0; i < call.length; i++) {
            EatenByDusk x = new EatenByDusk();
            int used = i == 1 ? 6 : 0;
            if (i == 1) tell(x, "w000;");
            for (int n = used; n < 511 && i != 4; n++) {
                due(call[i] + ", call " + (n + 1), ask(x, call[i], told[i]), -1 - i);
            }
            due("the 512th call", x.count(11 + i), i == 4 ? 0 : 511 - used);
        }
    }

    private static void noFaultIsCounted() {
        String[] told = {"", "x", "w10", "w100;x", "w100;i05;i30;", "w100;r500;r600;", "r200;bs010;", "bs000;bs000;", "i19;w930;"};
        int[] due = {-1000, -1000, -1003, -1005, -2009, -2010, -2005, -2006, -2004};
        for (int i = 0; i < told.length; i++) {
            for (boolean withImage : new boolean[] {false, true}) {
                EatenByDusk x = after(Past.DAY_WITHOUT_LETTERS, withImage);
                due("text() of " + told[i], tell(x, told[i]), due[i]);
                sameBut("text() of " + told[i], x, after(Past.DAY_WITHOUT_LETTERS, withImage), 0);
            }
        }
    }

    private static void askingKeepsAll() {
        for (int what : new int[] {LEAST, -1, 7, 8, 9, 10, 17, 18, GREATEST}) keeps(Past.DAY, -9, "count", what);
        keeps(Past.DAY, 5, "count", 16);
        keeps(Past.DAY, 3, "word", 1, 3);
        keeps(Past.DAY, 0, "word", 4, 5);
        keeps(Past.DAY, -9, "bird", 1, 4);
        keeps(Past.DUSK, -9, "bird", 0, 4);
        keeps(Past.DAY, 6, "left", 0);
        keeps(Past.DAY, 4, "left", 8);
        keeps(Past.DAY, 9, "eaten", 0);
        keeps(Past.DAY, 2, "eaten", 1);
        keeps(Past.DAY, -9, "eaten", 2);
        keeps(Past.DAY, 8, "meanings");
        keeps(Past.DAY, 1, "remain");
        keeps(Past.DAY, 0, "holds", 12);
        keeps(Past.DAY, -9, "holds", 2);
        keeps(Past.DAY, 0, "boys", 0);
        keeps(Past.DAY, 2, "boys", 6);
        keeps(Past.DAY, 2, "guard");
        keeps(Past.DUSK, -9, "guard");
        keeps(Past.DAY, 0, "winter", 1);
        keeps(Past.DAY, 0, "becomes");
        keeps(Past.DAY, 4, "danger");
        keeps(Past.DAY, 0, "lasts", 1);
        keeps(Past.DAY, 50, "mixed", 12, 0);
        keeps(Past.DAY, 2, "mixed", 12, 1);
        keeps(Past.DAY, 0, "tastes", 0, 31);
        keeps(Past.DAY, 63, "fitting", 0, 4);
        keeps(Past.DAY, 24, "seeds", 20, 0);
    }

    public static void main(String[] args) {
        letter();
        word();
        bird();
        bitter();
        ink();
        watch();
        hour();
        inMindWithNumbers();
        inMindOfWords();
        inMindOfBirds();
        row();
        on();
        eachNumberIsCounted();
        allCallsAreRefused();
        noFaultIsCounted();
        askingKeepsAll();
        System.out.println("RefusalTests: " + looked + " answers looked at, " + wrong + " not as due");
        if (wrong != 0) System.exit(1);
    }
}
