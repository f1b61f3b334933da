/** Words of a text, told in letters, and the birds that eat them hour by hour: ../shared/DOC.md tells all of it. */
public final class EatenByDusk {
    private static final int NOBODY = -1;
    private static final int OTHER = -2;
    private static final int STATE = -3;
    private static final int BELOW = -4;
    private static final int ROOM = -6;
    private static final int REFUSAL_NUMBERS = 6;
    private static final int WINTER_REFUSED = 1000000000;

    private static final int NONE = -9;
    private static final int ALREADY_GONE = 9;
    private static final int DUSK = 8;

    private static final int MOST_WORDS = 10;
    private static final int MOST_BIRDS = 4;
    private static final int MOST_LETTERS = 80;
    private static final int MOST_ROW = 10;
    private static final int MOST_DAYS = 20;
    private static final int MOST_MIXED = 12;
    private static final int GREATEST_DIGIT = 9;
    private static final int GREATEST_LETTER = 255;
    private static final int GREATEST_BITTERS = 999;
    private static final int INKS = 3;
    private static final int MEANINGS = 10;
    private static final int TASTES = 10;
    private static final int WORD_WHATS = 6;
    private static final int BIRD_WHATS = 5;

    private static final String KIND_LETTERS = "stcogf";
    private static final int MISSPELT = -1000;
    private static final int UNFIT = -2000;

    private final Garden now;
    private final Garden mind;
    private final Garden image;
    private boolean imageTaken;
    private final Letters letters;
    private final int[] row;
    private int rowLength;
    private final int[] refusals;

    public EatenByDusk() {
        Sparrow[] kinds = {new Sparrow(), new Thrush(), new Crow(), new Owl(), new Greedy(), new Finch()};
        now = new Garden(kinds);
        mind = new Garden(kinds);
        image = new Garden(kinds);
        letters = new Letters();
        row = new int[MOST_ROW];
        refusals = new int[REFUSAL_NUMBERS];
    }

    // ---- told and changed ----

    public int letter(int c) {
        if (c < 0) return refuse(BELOW);
        if (c > GREATEST_LETTER || letters.isFull()) return refuse(ROOM);
        return letters.add((char) c);
    }

    public int text() {
        int answer = letters.fault(now.wordCount, now.birdCount);
        if (answer == 0) answer = letters.tellTo(now);
        letters.clear();
        return answer;
    }

    public int word(int word, int what) {
        if (!now.hasWord(word)) return refuse(NOBODY);
        if (what < 0 || what >= WORD_WHATS) return refuse(OTHER);
        switch (what) {
            case 0: return now.sweet[word];
            case 1: return now.inkOf[word];
            case 2: return now.meaning[word];
            case 3: return now.strength(word);
            case 4: return now.isGone(word) ? 1 : 0;
            default: return now.isWatched(word, now.hour) ? 1 : 0;
        }
    }

    public int bird(int bird, int what) {
        if (!now.hasBird(bird)) return refuse(NOBODY);
        if (what < 0 || what >= BIRD_WHATS) return refuse(OTHER);
        switch (what) {
            case 0: return now.kind[bird];
            case 1: return now.taste[bird];
            case 2: return now.from[bird];
            case 3: return now.till[bird];
            default: return now.kindOf(bird).choice(now, now.taste[bird]);
        }
    }

    public int bitter(int ink, int v) {
        if (!isInk(ink)) return refuse(NOBODY);
        if (v < 0) return refuse(BELOW);
        if (v > GREATEST_DIGIT) return refuse(ROOM);
        int before = now.bitterOf[ink];
        now.setBitter(ink, v);
        return before;
    }

    public int ink(int word, int ink) {
        if (!now.hasWord(word) || !isInk(ink)) return refuse(NOBODY);
        int before = now.inkOf[word];
        now.inkOf[word] = ink;
        return before;
    }

    public int watch(int word, int hour, int is) {
        if (!now.hasWord(word)) return refuse(NOBODY);
        if (hour < 0) return refuse(BELOW);
        if (hour >= DUSK) return refuse(ROOM);
        if (is != 0 && is != 1) return refuse(OTHER);
        int before = now.isWatched(word, hour) ? 1 : 0;
        now.setWatched(word, hour, is == 1);
        return before;
    }

    public int hour() {
        if (now.hour >= DUSK) return refuse(STATE);
        return now.passHour();
    }

    public int anew() {
        now.gone = 0;
        now.hour = 0;
        return now.wordCount;
    }

    // ---- in mind, from now ----

    public int left(int n) {
        if (n < 0) return refuse(BELOW);
        if (n > DUSK) return refuse(ROOM);
        Garden later = mindAsNow();
        for (int i = 0; i < n; i++) {
            later.passHour();
        }
        return later.leftWords();
    }

    public int eaten(int word) {
        if (!now.hasWord(word)) return refuse(NOBODY);
        if (now.isGone(word)) return ALREADY_GONE;
        int goes = mindAsNow().hourOfGoing(word);
        return goes == DUSK ? NONE : goes;
    }

    public int meanings() {
        Garden later = mindAsNow();
        later.passTillDusk();
        return later.leftMeanings();
    }

    public int remain() {
        return mindAsNow().passTillDusk();
    }

    public int holds(int meanings) {
        if (meanings <= 0 || meanings >= 1 << MEANINGS) return refuse(NOBODY);
        int fewest = MOST_WORDS;
        for (int meaning = 0; meaning < MEANINGS; meaning++) {
            if ((meanings >> meaning & 1) == 1) fewest = Math.min(fewest, now.countLeftOf(meaning));
        }
        return fewest == 0 ? NONE : fewest - 1;
    }

    public int boys(int words) {
        if (!now.hasWords(words)) return refuse(NOBODY);
        if ((words & now.gone) != 0) return refuse(STATE);
        int best = words;
        int fewest = Integer.bitCount(words) + 1;
        for (int set = 0; set <= now.allWords(); set++) {
            boolean isFewer = Integer.bitCount(set) < fewest && (set & now.gone) == 0;
            if (isFewer && isKeptByWatching(words, set)) {
                best = set;
                fewest = Integer.bitCount(set);
            }
        }
        return best;
    }

    public int guard() {
        int best = NONE;
        int most = -1;
        for (int hour = now.hour; hour < DUSK; hour++) {
            Garden later = mindAsNow();
            later.watched[hour] = later.allWords();
            int count = later.passTillDusk();
            if (count > most) {
                most = count;
                best = hour;
            }
        }
        return best;
    }

    public int winter(int bird) {
        if (!now.hasBird(bird)) return WINTER_REFUSED - refuse(NOBODY);
        int with = mindAsNow().passTillDusk();
        Garden without = mindAsNow();
        without.keepAway(bird);
        return without.passTillDusk() - with;
    }

    public int becomes() {
        Garden later = mindAsNow();
        int hours = DUSK - now.hour;
        for (int n = 0; n <= hours; n++) {
            if (later.placeOtherThan(row, rowLength) == NONE) return n;
            later.passHour();
        }
        return NONE;
    }

    public int danger() {
        int before = now.leftMeanings();
        Garden later = mindAsNow();
        later.passTillDusk();
        return before & ~later.leftMeanings();
    }

    public int lasts(int word) {
        if (!now.hasWord(word)) return refuse(NOBODY);
        if (now.isGone(word)) return refuse(STATE);
        int best = 0;
        int latest = -1;
        for (int ink = 0; ink < INKS; ink++) {
            Garden later = mindAsNow();
            later.inkOf[word] = ink;
            int goes = later.hourOfGoing(word);
            if (goes > latest) {
                latest = goes;
                best = ink;
            }
        }
        return best;
    }

    public int mixed(int all, int what) {
        if (all < 0) return refuse(BELOW);
        if (all > MOST_MIXED) return refuse(ROOM);
        if (what != 0 && what != 1) return refuse(OTHER);
        int best = 0;
        int most = -1;
        // No more can be left than are left now, so the search may end there.
        for (int bitters = 0; bitters <= GREATEST_BITTERS && most < now.countLeft(); bitters++) {
            if (sumOfDigits(bitters) > all) continue;
            int count = countLeftByBitters(bitters);
            if (count > most) {
                most = count;
                best = bitters;
            }
        }
        return what == 0 ? best : most;
    }

    public int tastes(int bird, int words) {
        if (!now.hasBird(bird) || !now.hasWords(words)) return refuse(NOBODY);
        int fit = 0;
        for (int taste = 0; taste < TASTES; taste++) {
            Garden later = mindAsNow();
            later.taste[bird] = taste;
            later.passTillDusk();
            if (later.leftWords() == words) fit |= 1 << taste;
        }
        return fit;
    }

    public int fitting(int bird, int words) {
        if (!now.hasBird(bird) || !now.hasWords(words)) return refuse(NOBODY);
        int fit = 0;
        for (int kind = 0; kind < KIND_LETTERS.length(); kind++) {
            Garden later = mindAsNow();
            later.kind[bird] = kind;
            later.passTillDusk();
            if (later.leftWords() == words) fit |= 1 << kind;
        }
        return fit;
    }

    public int seeds(int n, int z) {
        if (n < 1) return refuse(BELOW);
        if (n > MOST_DAYS) return refuse(ROOM);
        int seed = z;
        int sum = 0;
        for (int day = 0; day < n; day++) {
            Garden later = mindAsNow();
            for (int bird = 0; bird < later.birdCount; bird++) {
                seed = seed * 1664525 + 1013904223;
                later.taste[bird] = (seed & 0x7fffffff) / 256 % TASTES;
            }
            sum += later.passTillDusk();
        }
        return sum;
    }

    // ---- the row, the image, the counts ----

    public int row(int v) {
        if (v < 0) return refuse(BELOW);
        if (v > GREATEST_DIGIT || rowLength >= MOST_ROW) return refuse(ROOM);
        row[rowLength] = v;
        rowLength++;
        return rowLength;
    }

    public int judge() {
        int answer = now.placeOtherThan(row, rowLength);
        rowLength = 0;
        return answer;
    }

    public int image() {
        image.becomeAs(now);
        imageTaken = true;
        return now.hour;
    }

    public int on() {
        if (!imageTaken) return refuse(STATE);
        now.becomeAs(image);
        return now.hour;
    }

    public int count(int what) {
        if (what > 10 && what <= 10 + REFUSAL_NUMBERS) return refusals[what - 11];
        switch (what) {
            case 0: return now.wordCount;
            case 1: return now.birdCount;
            case 2: return now.hour;
            case 3: return Integer.bitCount(now.gone);
            case 4: return now.strengthLeft();
            case 5: return rowLength;
            case 6: return letters.size;
            default: return NONE;
        }
    }

    // ---- what the calls share ----

    private int refuse(int number) {
        int place = -1 - number;
        if (place >= 0 && place < REFUSAL_NUMBERS) refusals[place]++;
        return number;
    }

    /** The garden in mind: whatever happens there, the one of now stays. */
    private Garden mindAsNow() {
        mind.becomeAs(now);
        return mind;
    }

    private boolean isKeptByWatching(int words, int set) {
        Garden later = mindAsNow();
        for (int hour = 0; hour < DUSK; hour++) {
            later.watched[hour] |= set;
        }
        for (int hour = later.hour; hour < DUSK && (later.gone & words) == 0; hour++) {
            later.passHour();
        }
        return (later.gone & words) == 0;
    }

    private int countLeftByBitters(int digits) {
        Garden later = mindAsNow();
        later.bitterOf[0] = digits / 100;
        later.bitterOf[1] = digits / 10 % 10;
        later.bitterOf[2] = digits % 10;
        return later.passTillDusk();
    }

    private static int sumOfDigits(int digits) {
        return digits / 100 + digits / 10 % 10 + digits % 10;
    }

    private static boolean isInk(int ink) {
        return ink >= 0 && ink < INKS;
    }

    /** The KIND of a bird, which chooses what it eats; the other KINDS tell only what they do otherwise. */
    private static class Sparrow {
        /** The WORD that it eats next, NONE if it may eat none. */
        final int choice(Garden garden, int taste) {
            int chosen = NONE;
            for (int word = 0; word < garden.wordCount; word++) {
                if (!garden.mayBeEaten(word, taste) || !reaches(garden, word)) continue;
                if (chosen == NONE || prefers(garden, word, chosen)) chosen = word;
            }
            return chosen;
        }

        int meals() {
            return 1;
        }

        boolean reaches(Garden garden, int word) {
            return true;
        }

        /** Whether it likes a WORD better than an earlier one. */
        boolean prefers(Garden garden, int word, int earlier) {
            return garden.strength(word) > garden.strength(earlier);
        }
    }

    private static class Thrush extends Sparrow {
        boolean prefers(Garden garden, int word, int earlier) {
            return false;
        }
    }

    private static class Crow extends Sparrow {
        boolean prefers(Garden garden, int word, int earlier) {
            return garden.strength(word) < garden.strength(earlier);
        }
    }

    private static final class Owl extends Thrush {
        boolean prefers(Garden garden, int word, int earlier) {
            return true;
        }
    }

    private static final class Greedy extends Sparrow {
        int meals() {
            return 2;
        }
    }

    private static final class Finch extends Crow {
        boolean reaches(Garden garden, int word) {
            return word == 0 || garden.isGone(word - 1);
        }
    }

    /** The words, the birds, and how far the day is: all that an image holds. */
    private static final class Garden {
        final Sparrow[] kinds;
        final int[] sweet = new int[MOST_WORDS];
        final int[] inkOf = new int[MOST_WORDS];
        final int[] meaning = new int[MOST_WORDS];
        int wordCount;
        final int[] kind = new int[MOST_BIRDS];
        final int[] taste = new int[MOST_BIRDS];
        final int[] from = new int[MOST_BIRDS];
        final int[] till = new int[MOST_BIRDS];
        int birdCount;
        final int[] bitterOf = new int[INKS];
        /** Of each hour the bits of the words. */
        final int[] watched = new int[DUSK];
        int gone;
        int hour;

        Garden(Sparrow[] kinds) {
            this.kinds = kinds;
        }

        void becomeAs(Garden other) {
            System.arraycopy(other.sweet, 0, sweet, 0, MOST_WORDS);
            System.arraycopy(other.inkOf, 0, inkOf, 0, MOST_WORDS);
            System.arraycopy(other.meaning, 0, meaning, 0, MOST_WORDS);
            wordCount = other.wordCount;
            System.arraycopy(other.kind, 0, kind, 0, MOST_BIRDS);
            System.arraycopy(other.taste, 0, taste, 0, MOST_BIRDS);
            System.arraycopy(other.from, 0, from, 0, MOST_BIRDS);
            System.arraycopy(other.till, 0, till, 0, MOST_BIRDS);
            birdCount = other.birdCount;
            System.arraycopy(other.bitterOf, 0, bitterOf, 0, INKS);
            System.arraycopy(other.watched, 0, watched, 0, DUSK);
            gone = other.gone;
            hour = other.hour;
        }

        boolean hasWord(int word) {
            return word >= 0 && word < wordCount;
        }

        boolean hasWords(int bits) {
            return bits >= 0 && bits <= allWords();
        }

        boolean hasBird(int bird) {
            return bird >= 0 && bird < birdCount;
        }

        void addWord(int sweetness, int ink, int meant) {
            if (wordCount >= MOST_WORDS || !isInk(ink)) return;
            sweet[wordCount] = sweetness;
            inkOf[wordCount] = ink;
            meaning[wordCount] = meant;
            wordCount++;
        }

        void addBird(int itsKind, int itsTaste, int itsFrom, int itsTill) {
            if (birdCount >= MOST_BIRDS || itsKind < 0 || itsKind >= kinds.length) return;
            kind[birdCount] = itsKind;
            taste[birdCount] = itsTaste;
            from[birdCount] = itsFrom;
            till[birdCount] = itsTill;
            birdCount++;
        }

        /** A bird of which no hour is from FROM till TILL does not come. */
        void keepAway(int bird) {
            from[bird] = DUSK;
        }

        void setBitter(int ink, int v) {
            if (isInk(ink)) bitterOf[ink] = v;
        }

        void setWatched(int word, int inHour, boolean is) {
            if (!hasWord(word) || inHour < 0 || inHour >= DUSK) return;
            int others = watched[inHour] & ~(1 << word);
            watched[inHour] = is ? others | 1 << word : others;
        }

        /** At dusk no word is watched. */
        boolean isWatched(int word, int inHour) {
            return inHour >= 0 && inHour < DUSK && (watched[inHour] >> word & 1) == 1;
        }

        boolean isGone(int word) {
            return (gone >> word & 1) == 1;
        }

        int strength(int word) {
            int less = sweet[word] - bitterOf[inkOf[word]];
            return less < 0 ? 0 : less;
        }

        /** At dusk none may be eaten. */
        boolean mayBeEaten(int word, int byTaste) {
            return hour < DUSK && !isGone(word) && !isWatched(word, hour) && strength(word) >= byTaste;
        }

        Sparrow kindOf(int bird) {
            return kinds[kind[bird]];
        }

        /** How many are eaten in the hour that goes by; behind dusk none goes by. */
        int passHour() {
            if (hour >= DUSK) return 0;
            int before = countLeft();
            for (int bird = 0; bird < birdCount; bird++) {
                boolean comes = from[bird] <= hour && hour <= till[bird];
                int meals = comes ? kindOf(bird).meals() : 0;
                for (int meal = 0; meal < meals; meal++) {
                    int word = kindOf(bird).choice(this, taste[bird]);
                    if (word != NONE) gone |= 1 << word;
                }
            }
            hour++;
            return before - countLeft();
        }

        /** How many are left then. */
        int passTillDusk() {
            for (int goingBy = hour; goingBy < DUSK; goingBy++) {
                passHour();
            }
            return countLeft();
        }

        /** The hour in which a word goes, DUSK if it is left then. */
        int hourOfGoing(int word) {
            for (int goingBy = hour; goingBy < DUSK; goingBy++) {
                passHour();
                if (isGone(word)) return goingBy;
            }
            return DUSK;
        }

        int allWords() {
            return (1 << wordCount) - 1;
        }

        int leftWords() {
            return allWords() & ~gone;
        }

        int countLeft() {
            return Integer.bitCount(leftWords());
        }

        int countLeftOf(int told) {
            int count = 0;
            for (int word = 0; word < wordCount; word++) {
                if (!isGone(word) && meaning[word] == told) count++;
            }
            return count;
        }

        int leftMeanings() {
            int bits = 0;
            for (int word = 0; word < wordCount; word++) {
                if (!isGone(word)) bits |= 1 << meaning[word];
            }
            return bits;
        }

        int strengthLeft() {
            int sum = 0;
            for (int word = 0; word < wordCount; word++) {
                if (!isGone(word)) sum += strength(word);
            }
            return sum;
        }

        /** The first place where a row is not as the meanings that are left, its end and theirs too; NONE if it is. */
        int placeOtherThan(int[] row, int length) {
            int place = 0;
            for (int word = 0; word < wordCount; word++) {
                if (isGone(word)) continue;
                if (place >= length || row[place] != meaning[word]) return place;
                place++;
            }
            return place < length ? place : NONE;
        }
    }

    /** The letters that will be a text. */
    private static final class Letters {
        private final char[] letters = new char[MOST_LETTERS];
        int size;

        boolean isFull() {
            return size >= MOST_LETTERS;
        }

        int add(char letter) {
            if (isFull()) return size;
            letters[size] = letter;
            size++;
            return size;
        }

        void clear() {
            size = 0;
        }

        /** The FAULT of the text behind so many words and birds, 0 without one. */
        int fault(int words, int birds) {
            int misspelt = misspeltPlace();
            if (misspelt != NONE) return MISSPELT - misspelt;
            int unfit = unfitPlace(words, birds);
            return unfit == NONE ? 0 : UNFIT - unfit;
        }

        /** What the letters, which have no FAULT, tell comes to a garden: how many statements. */
        int tellTo(Garden garden) {
            int statements = 0;
            for (int place = 0; place < size; place++) {
                if (!beginsStatement(place)) continue;
                tellStatement(place, garden);
                statements++;
            }
            return statements;
        }

        private int misspeltPlace() {
            int place = 0;
            do {
                String form = formBehind(letterAt(place));
                if (form.isEmpty()) return place;
                for (int i = 0; i < form.length(); i++) {
                    place++;
                    if (!isOfForm(letterAt(place), form.charAt(i))) return place;
                }
                place++;
            } while (place < size);
            return NONE;
        }

        private int unfitPlace(int wordsNow, int birdsNow) {
            int words = wordsNow;
            int birds = birdsNow;
            for (int place = 0; place < size; place++) {
                if (!beginsStatement(place)) continue;
                if (!isFit(place, words, birds)) return place;
                if (letterAt(place) == 'w') words++;
                if (letterAt(place) == 'b') birds++;
            }
            return NONE;
        }

        private boolean isFit(int place, int words, int birds) {
            switch (letterAt(place)) {
                case 'w': return words < MOST_WORDS && isInk(digitAt(place + 2));
                case 'b': return birds < MOST_BIRDS && areHours(digitAt(place + 3), digitAt(place + 4));
                case 'i': return isInk(digitAt(place + 1));
                default: return digitAt(place + 1) < words && areHours(digitAt(place + 2), digitAt(place + 3));
            }
        }

        private void tellStatement(int place, Garden garden) {
            int first = digitAt(place + 1);
            int second = digitAt(place + 2);
            int third = digitAt(place + 3);
            switch (letterAt(place)) {
                case 'w':
                    garden.addWord(first, second, third);
                    break;
                case 'b':
                    garden.addBird(KIND_LETTERS.indexOf(letterAt(place + 1)), second, third, digitAt(place + 4));
                    break;
                case 'i':
                    garden.setBitter(first, second);
                    break;
                default:
                    for (int hour = second; hour <= third; hour++) {
                        garden.setWatched(first, hour, true);
                    }
                    break;
            }
        }

        /** What must stand behind a statement's first letter: d a digit, k a letter of a KIND; nothing if none begins so. */
        private static String formBehind(char first) {
            switch (first) {
                case 'w': return "ddd;";
                case 'b': return "kddd;";
                case 'i': return "dd;";
                case 'r': return "ddd;";
                default: return "";
            }
        }

        private static boolean isOfForm(char letter, char form) {
            switch (form) {
                case 'd': return letter >= '0' && letter <= '9';
                case 'k': return KIND_LETTERS.indexOf(letter) >= 0;
                default: return letter == form;
            }
        }

        private static boolean areHours(int from, int till) {
            return from <= till && till < DUSK;
        }

        private boolean beginsStatement(int place) {
            return place == 0 || letterAt(place - 1) == ';';
        }

        /** Behind the last letter stands the sign 0, which is in no text. */
        private char letterAt(int place) {
            return place >= 0 && place < size ? letters[place] : (char) 0;
        }

        private int digitAt(int place) {
            return letterAt(place) - '0';
        }
    }
}
