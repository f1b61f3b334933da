import java.util.ArrayList;
import java.util.Comparator;
import java.util.List;
import java.util.Set;
import java.util.TreeSet;
import java.util.function.Consumer;
import java.util.function.Predicate;
import java.util.regex.Matcher;
import java.util.regex.Pattern;
import java.util.stream.Collectors;
import java.util.stream.IntStream;

/** Long runs of calls, each answer beside that of a second program which is written otherwise: lists, sets and sorting. */
public final class ModelTests {
    private static final int RUNS = 3000;
    private static final int MOST_CALLS = 512;
    private static final String KINDS = "stcogf";
    private static final Pattern TEXT = Pattern.compile("(w[0-9]{3};|b[stcogf][0-9]{3};|i[0-9]{2};|r[0-9]{3};)+");

    private static final class Word {
        int sweet;
        int ink;
        int meaning;
        boolean gone;
        final Set<Integer> watchedIn = new TreeSet<>();
    }

    private static final class Bird {
        char kind;
        int taste;
        int from;
        int till;
    }

    private static final class State {
        final List<Word> words = new ArrayList<>();
        final List<Bird> birds = new ArrayList<>();
        final List<Integer> bitter = new ArrayList<>(List.of(0, 0, 0));
        int hour = 0;

        State copy() {
            State other = new State();
            for (Word word : words) {
                Word copy = new Word();
                copy.sweet = word.sweet;
                copy.ink = word.ink;
                copy.meaning = word.meaning;
                copy.gone = word.gone;
                copy.watchedIn.addAll(word.watchedIn);
                other.words.add(copy);
            }
            for (Bird bird : birds) {
                Bird copy = new Bird();
                copy.kind = bird.kind;
                copy.taste = bird.taste;
                copy.from = bird.from;
                copy.till = bird.till;
                other.birds.add(copy);
            }
            other.bitter.clear();
            other.bitter.addAll(bitter);
            other.hour = hour;
            return other;
        }

        int strength(int w) {
            return Math.max(0, words.get(w).sweet - bitter.get(words.get(w).ink));
        }

        List<Integer> those(Predicate<Word> are) {
            return IntStream.range(0, words.size()).filter(w -> are.test(words.get(w))).boxed().collect(Collectors.toList());
        }

        List<Integer> left() {
            return those(word -> !word.gone);
        }

        int leftBits() {
            return left().stream().mapToInt(w -> 1 << w).sum();
        }

        List<Integer> leftMeanings() {
            return left().stream().map(w -> words.get(w).meaning).collect(Collectors.toList());
        }

        int meaningBits() {
            return leftMeanings().stream().distinct().mapToInt(m -> 1 << m).sum();
        }

        int firstMeal(Bird bird) {
            if (hour == 8) return -9;
            List<Integer> may = those(word -> !word.gone && !word.watchedIn.contains(hour));
            may.removeIf(w -> strength(w) < bird.taste);
            if (bird.kind == 'f') may.removeIf(w -> w > 0 && !words.get(w - 1).gone);
            if (may.isEmpty()) return -9;
            if (bird.kind == 't') return may.get(0);
            if (bird.kind == 'o') return may.get(may.size() - 1);
            Comparator<Integer> byStrength = Comparator.comparing(this::strength);
            boolean likesWeak = bird.kind == 'c' || bird.kind == 'f';
            may.sort(likesWeak ? byStrength : byStrength.reversed());
            return may.get(0);
        }

        int passHour() {
            int eaten = 0;
            for (Bird bird : birds) {
                if (hour < bird.from || hour > bird.till) continue;
                for (int meal = bird.kind == 'g' ? 2 : 1; meal > 0; meal--) {
                    int w = firstMeal(bird);
                    if (w < 0) continue;
                    words.get(w).gone = true;
                    eaten++;
                }
            }
            hour++;
            return eaten;
        }

        State later(Consumer<State> change, int hours) {
            State later = copy();
            change.accept(later);
            for (int i = 0; i < hours && later.hour < 8; i++) {
                later.passHour();
            }
            return later;
        }

        State dusk(Consumer<State> change) {
            return later(change, 8);
        }

        /** The hour in which a word goes, 99 if it is left at dusk. */
        int goes(Consumer<State> change, int w) {
            return IntStream.range(hour, 8).filter(h -> later(change, h + 1 - hour).words.get(w).gone).findFirst().orElse(99);
        }
    }

    private State now = new State();
    private State image = null;
    private String letters = "";
    private final List<Integer> row = new ArrayList<>();
    private final List<Integer> refusals = new ArrayList<>();

    private int refuse(int number) {
        refusals.add(number);
        return number;
    }

    private boolean noWord(int w) {
        return w < 0 || w >= now.words.size();
    }

    private boolean noBird(int b) {
        return b < 0 || b >= now.birds.size();
    }

    private boolean noBits(int bits) {
        return bits < 0 || bits >= Math.pow(2, now.words.size());
    }

    private static void nothing(State s) {
    }

    private int text() {
        String told = letters;
        letters = "";
        for (int n = 0; n <= told.length(); n++) {
            Matcher begun = TEXT.matcher(told.substring(0, n));
            boolean whole = begun.matches();
            if (!whole && !begun.hitEnd()) return -1000 - (n - 1);
            if (!whole && n == told.length()) return -1000 - n;
        }
        State then = now.copy();
        int place = 0;
        int statements = 0;
        for (String one : told.split(";")) {
            if (!comes(then, one)) return -2000 - place;
            place += one.length() + 1;
            statements++;
        }
        now = then;
        return statements;
    }

    private static boolean comes(State s, String one) {
        int[] d = one.chars().map(c -> Character.digit(c, 10)).toArray();
        switch (one.charAt(0)) {
            case 'w': {
                Word word = new Word();
                word.sweet = d[1];
                word.ink = d[2];
                word.meaning = d[3];
                s.words.add(word);
                return s.words.size() < 11 && word.ink < 3;
            }
            case 'b': {
                Bird bird = new Bird();
                bird.kind = one.charAt(1);
                bird.taste = d[2];
                bird.from = d[3];
                bird.till = d[4];
                s.birds.add(bird);
                return s.birds.size() < 5 && bird.from <= bird.till && bird.till <= 7;
            }
            case 'i':
                if (d[1] > 2) return false;
                s.bitter.set(d[1], d[2]);
                return true;
            default:
                if (d[1] >= s.words.size() || d[2] > d[3] || d[3] > 7) return false;
                IntStream.rangeClosed(d[2], d[3]).forEach(s.words.get(d[1]).watchedIn::add);
                return true;
        }
    }

    private int word(int w, int what) {
        if (noWord(w)) return refuse(-1);
        if (what < 0 || what > 5) return refuse(-2);
        Word word = now.words.get(w);
        boolean watched = word.watchedIn.contains(now.hour);
        return new int[] {word.sweet, word.ink, word.meaning, now.strength(w), word.gone ? 1 : 0, watched ? 1 : 0}[what];
    }

    private int bird(int b, int what) {
        if (noBird(b)) return refuse(-1);
        if (what < 0 || what > 4) return refuse(-2);
        Bird bird = now.birds.get(b);
        return new int[] {KINDS.indexOf(bird.kind), bird.taste, bird.from, bird.till, now.firstMeal(bird)}[what];
    }

    private int bitter(int ink, int v) {
        if (ink < 0 || ink > 2) return refuse(-1);
        if (v < 0 || v > 9) return refuse(v < 0 ? -4 : -6);
        return now.bitter.set(ink, v);
    }

    private int ink(int w, int ink) {
        if (noWord(w) || ink < 0 || ink > 2) return refuse(-1);
        int was = now.words.get(w).ink;
        now.words.get(w).ink = ink;
        return was;
    }

    private int watch(int w, int hour, int is) {
        if (noWord(w)) return refuse(-1);
        if (hour < 0 || hour > 7) return refuse(hour < 0 ? -4 : -6);
        if (is < 0 || is > 1) return refuse(-2);
        Set<Integer> in = now.words.get(w).watchedIn;
        boolean was = is == 1 ? !in.add(hour) : in.remove(hour);
        return was ? 1 : 0;
    }

    private int anew() {
        now.hour = 0;
        now.words.forEach(word -> word.gone = false);
        return now.words.size();
    }

    private int eaten(int w) {
        if (noWord(w)) return refuse(-1);
        if (now.words.get(w).gone) return 9;
        int goes = now.goes(ModelTests::nothing, w);
        return goes == 99 ? -9 : goes;
    }

    private int holds(int meanings) {
        if (meanings < 1 || meanings > 1023) return refuse(-1);
        int greatest = -9;
        for (int k = 0; k <= now.left().size() && holdsBehind(meanings, k); k++) {
            greatest = k;
        }
        return greatest;
    }

    /** Whether of each meaning a word is left, whichever k are eaten. */
    private boolean holdsBehind(int meanings, int k) {
        int all = now.leftBits();
        for (int eaten = 0; eaten <= all; eaten++) {
            if ((eaten & ~all) != 0 || Integer.bitCount(eaten) != k) continue;
            int still = 0;
            for (int w : now.left()) {
                if ((eaten >> w & 1) == 0) still |= 1 << now.words.get(w).meaning;
            }
            if ((still & meanings) != meanings) return false;
        }
        return true;
    }

    private int boys(int bits) {
        if (noBits(bits)) return refuse(-1);
        if ((now.leftBits() & bits) != bits) return refuse(-3);
        for (int k = 0; k <= 10; k++) {
            for (int set = 0; set < 1 << now.words.size(); set++) {
                int chosen = set;
                if (Integer.bitCount(set) != k) continue;
                State dusk = now.dusk(s -> s.those(word -> true).stream().filter(w -> (chosen >> w & 1) == 1)
                    .forEach(w -> s.words.get(w).watchedIn.addAll(List.of(0, 1, 2, 3, 4, 5, 6, 7))));
                if ((dusk.leftBits() & bits) == bits) return set;
            }
        }
        throw new IllegalStateException("watching all keeps all");
    }

    private int guard() {
        return IntStream.range(now.hour, 8).boxed().max(Comparator.comparing(this::leftBehindGuard)
            .thenComparing(Comparator.reverseOrder())).orElse(-9);
    }

    private int leftBehindGuard(int hour) {
        return now.dusk(s -> s.words.forEach(word -> word.watchedIn.add(hour))).left().size();
    }

    private int winter(int b) {
        if (noBird(b)) return 1000000000 - refuse(-1);
        return now.dusk(s -> s.birds.remove(b)).left().size() - now.dusk(ModelTests::nothing).left().size();
    }

    private int becomes() {
        return IntStream.rangeClosed(0, 8 - now.hour)
            .filter(n -> now.later(ModelTests::nothing, n).leftMeanings().equals(row)).findFirst().orElse(-9);
    }

    private int lasts(int w) {
        if (noWord(w)) return refuse(-1);
        if (now.words.get(w).gone) return refuse(-3);
        return List.of(2, 1, 0).stream().max(Comparator.comparing(
            ink -> 10 * now.goes(s -> s.words.get(w).ink = ink, w) - ink)).get();
    }

    private int mixed(int all, int what) {
        if (all < 0 || all > 12) return refuse(all < 0 ? -4 : -6);
        if (what < 0 || what > 1) return refuse(-2);
        int[] best = {-1, 0};
        for (int a = 0; a < 10; a++) {
            for (int b = 0; b < 10; b++) {
                for (int c = 0; c < 10 && a + b + c <= all; c++) {
                    List<Integer> told = List.of(a, b, c);
                    int left = now.dusk(s -> {
                        s.bitter.clear();
                        s.bitter.addAll(told);
                    }).left().size();
                    if (left > best[0]) best = new int[] {left, 100 * a + 10 * b + c};
                }
            }
        }
        return what == 1 ? best[0] : best[1];
    }

    private int tastes(int b, int bits) {
        if (noBird(b) || noBits(bits)) return refuse(-1);
        return IntStream.range(0, 10).filter(t -> now.dusk(s -> s.birds.get(b).taste = t).leftBits() == bits)
            .map(t -> 1 << t).sum();
    }

    private int fitting(int b, int bits) {
        if (noBird(b) || noBits(bits)) return refuse(-1);
        return IntStream.range(0, 6).filter(k -> now.dusk(s -> s.birds.get(b).kind = KINDS.charAt(k)).leftBits() == bits)
            .map(k -> 1 << k).sum();
    }

    private int row(int v) {
        if (v < 0) return refuse(-4);
        if (v > 9 || row.size() == 10) return refuse(-6);
        row.add(v);
        return row.size();
    }

    private int judge() {
        List<Integer> left = now.leftMeanings();
        List<Integer> told = List.copyOf(row);
        row.clear();
        if (told.equals(left)) return -9;
        int same = 0;
        while (same < Math.min(told.size(), left.size()) && told.get(same).equals(left.get(same))) same++;
        return same;
    }

    private int seeds(int n, int z) {
        if (n < 1 || n > 20) return refuse(n < 1 ? -4 : -6);
        long[] seed = {z};
        int sum = 0;
        for (int day = 0; day < n; day++) {
            sum += now.dusk(s -> s.birds.forEach(bird -> {
                seed[0] = (int) (seed[0] * 1664525L + 1013904223L);
                bird.taste = (int) (Math.floorMod(seed[0], 1L << 31) / 256 % 10);
            })).left().size();
        }
        return sum;
    }

    private int count(int what) {
        if (what >= 11 && what <= 16) return (int) refusals.stream().filter(r -> r == 10 - what).count();
        if (what < 0 || what > 6) return -9;
        int strength = now.left().stream().mapToInt(now::strength).sum();
        return new int[] {now.words.size(), now.birds.size(), now.hour, now.words.size() - now.left().size(), strength,
            row.size(), letters.length()}[what];
    }

    private int answer(String name, int a, int b, int c) {
        switch (name) {
            case "letter":
                if (a < 0) return refuse(-4);
                if (a > 255 || letters.length() == 80) return refuse(-6);
                letters += (char) a;
                return letters.length();
            case "text": return text();
            case "word": return word(a, b);
            case "bird": return bird(a, b);
            case "bitter": return bitter(a, b);
            case "ink": return ink(a, b);
            case "watch": return watch(a, b, c);
            case "hour": return now.hour == 8 ? refuse(-3) : now.passHour();
            case "anew": return anew();
            case "left": return a < 0 ? refuse(-4) : a > 8 ? refuse(-6) : now.later(ModelTests::nothing, a).leftBits();
            case "eaten": return eaten(a);
            case "meanings": return now.dusk(ModelTests::nothing).meaningBits();
            case "remain": return now.dusk(ModelTests::nothing).left().size();
            case "holds": return holds(a);
            case "boys": return boys(a);
            case "guard": return guard();
            case "winter": return winter(a);
            case "becomes": return becomes();
            case "danger": return now.meaningBits() & ~now.dusk(ModelTests::nothing).meaningBits();
            case "lasts": return lasts(a);
            case "mixed": return mixed(a, b);
            case "tastes": return tastes(a, b);
            case "fitting": return fitting(a, b);
            case "row": return row(a);
            case "judge": return judge();
            case "seeds": return seeds(a, b);
            case "image":
                image = now.copy();
                return now.hour;
            case "on":
                if (image == null) return refuse(-3);
                now = image.copy();
                return now.hour;
            default: return count(a);
        }
    }

    private static int asked(EatenByDusk x, String name, int a, int b, int c) {
        switch (name) {
            case "letter": return x.letter(a);
            case "text": return x.text();
            case "word": return x.word(a, b);
            case "bird": return x.bird(a, b);
            case "bitter": return x.bitter(a, b);
            case "ink": return x.ink(a, b);
            case "watch": return x.watch(a, b, c);
            case "hour": return x.hour();
            case "anew": return x.anew();
            case "left": return x.left(a);
            case "eaten": return x.eaten(a);
            case "meanings": return x.meanings();
            case "remain": return x.remain();
            case "holds": return x.holds(a);
            case "boys": return x.boys(a);
            case "guard": return x.guard();
            case "winter": return x.winter(a);
            case "becomes": return x.becomes();
            case "danger": return x.danger();
            case "lasts": return x.lasts(a);
            case "mixed": return x.mixed(a, b);
            case "tastes": return x.tastes(a, b);
            case "fitting": return x.fitting(a, b);
            case "row": return x.row(a);
            case "judge": return x.judge();
            case "seeds": return x.seeds(a, b);
            case "image": return x.image();
            case "on": return x.on();
            default: return x.count(a);
        }
    }

    /** Numbers that are the same in every run of the tests. */
    private static final class Draws {
        private long seed;

        Draws(long seed) {
            this.seed = seed * 0x9E3779B97F4A7C15L + 1;
        }

        int below(int m) {
            seed = seed * 6364136223846793005L + 1442695040888963407L;
            return (int) ((seed >>> 33) % m);
        }

        boolean once(int in) {
            return below(in) == 0;
        }
    }

    private static final String[] NAMES = {"word", "bird", "bitter", "ink", "watch", "watch", "hour", "hour", "anew", "left",
        "eaten", "meanings", "remain", "holds", "boys", "guard", "winter", "becomes", "danger", "lasts", "mixed", "tastes",
        "fitting", "row", "judge", "seeds", "image", "on", "count", "letter", "text"};
    private static final int[] FAR = {Integer.MIN_VALUE, Integer.MAX_VALUE, -1, 10, 1023, 1024, 1 << 20, -1000000000};

    private final EatenByDusk x = new EatenByDusk();
    private final Draws draws;
    private final StringBuilder calls = new StringBuilder();
    private int called = 0;
    private boolean isWrong = false;

    private ModelTests(int run) {
        draws = new Draws(run);
    }

    private void call(String name, int a, int b, int c) {
        if (isWrong || called == MOST_CALLS) return;
        called++;
        int due = answer(name, a, b, c);
        int got = asked(x, name, a, b, c);
        calls.append(name + "(" + a + ", " + b + ", " + c + ") = " + got + "\n");
        if (due == got) return;
        isWrong = true;
        System.out.println(calls + "due is " + due + "\n");
    }

    private void tell(String told) {
        for (int i = 0; i < told.length(); i++) {
            call("letter", told.charAt(i), 0, 0);
        }
        call("text", 0, 0, 0);
    }

    private int digit(int below) {
        return draws.below(draws.once(40) ? 10 : below);
    }

    private String statement() {
        int from = draws.below(8);
        int till = digit(8);
        if (!draws.once(30) && from > till) from = till;
        switch (draws.below(8)) {
            case 0: return "i" + digit(3) + draws.below(10) + ";";
            case 1: return "r" + digit(Math.max(1, now.words.size())) + from + till + ";";
            case 2:
            case 3:
            case 4: return "b" + KINDS.charAt(draws.below(6)) + draws.below(draws.once(2) ? 3 : 10) + from + till + ";";
            default: return "w" + draws.below(10) + digit(3) + draws.below(draws.once(2) ? 3 : 10) + ";";
        }
    }

    private String someText() {
        StringBuilder told = new StringBuilder();
        for (int n = draws.below(9); n >= 0; n--) {
            told.append(statement());
        }
        if (draws.once(8)) told.setCharAt(draws.below(told.length()), "wbir;0159stx".charAt(draws.below(12)));
        if (draws.once(12)) told.setLength(draws.below(told.length()));
        return told.toString();
    }

    private int number(int below) {
        if (draws.once(25)) return FAR[draws.below(FAR.length)];
        return draws.once(12) ? draws.below(below + 3) - 2 : draws.below(Math.max(1, below));
    }

    private void someCall() {
        String name = NAMES[draws.below(NAMES.length)];
        int words = now.words.size();
        int birds = now.birds.size();
        int bits = draws.once(2) ? now.later(ModelTests::nothing, draws.below(9)).leftBits() : number(1 << words);
        if (draws.once(3)) bits &= number(1 << words);
        switch (name) {
            case "word": call(name, number(words), number(6), 0); break;
            case "bird": call(name, number(birds), number(5), 0); break;
            case "bitter": call(name, number(3), number(10), 0); break;
            case "ink": call(name, number(words), number(3), 0); break;
            case "watch": call(name, number(words), number(8), number(2)); break;
            case "left": call(name, number(9), 0, 0); break;
            case "eaten":
            case "lasts": call(name, number(words), 0, 0); break;
            case "holds": call(name, draws.once(2) ? now.meaningBits() & number(1024) : number(1024), 0, 0); break;
            case "boys": call(name, draws.once(2) ? bits & now.leftBits() : bits, 0, 0); break;
            case "winter": call(name, number(birds), 0, 0); break;
            case "becomes": if (draws.once(2)) tellRow(); call(name, 0, 0, 0); break;
            case "judge": if (draws.once(2)) tellRow(); call(name, 0, 0, 0); break;
            case "mixed": call(name, number(13), number(2), 0); break;
            case "tastes":
            case "fitting": call(name, number(birds), draws.once(3) ? bits : fitBits(birds), 0); break;
            case "row": call(name, number(10), 0, 0); break;
            case "seeds": call(name, number(21), draws.below(Integer.MAX_VALUE) * 2 + draws.below(2), 0); break;
            case "count": call(name, number(17), 0, 0); break;
            case "letter": call(name, number(256), 0, 0); break;
            case "text": tell(someText()); break;
            case "anew": if (draws.once(2)) call(name, 0, 0, 0); break;
            default: call(name, 0, 0, 0); break;
        }
    }

    /** What is left by some taste or kind of a bird. */
    private int fitBits(int birds) {
        if (birds == 0) return 0;
        int b = draws.below(birds);
        int taste = draws.below(10);
        int kind = draws.below(6);
        boolean byTaste = draws.once(2);
        return now.dusk(s -> {
            if (byTaste) s.birds.get(b).taste = taste;
            else s.birds.get(b).kind = KINDS.charAt(kind);
        }).leftBits();
    }

    private void tellRow() {
        call("judge", 0, 0, 0);
        for (int meaning : now.later(ModelTests::nothing, draws.below(9)).leftMeanings()) {
            call("row", draws.once(15) ? draws.below(10) : meaning, 0, 0);
        }
    }

    private boolean runIsWrong() {
        tell(someText());
        if (draws.once(2)) tell(someText());
        int most = 60 + draws.below(MOST_CALLS);
        for (int i = 0; i < 300 && called < most; i++) {
            someCall();
        }
        for (int what = 0; what < 18; what++) {
            call("count", what, 0, 0);
        }
        return isWrong;
    }

    public static void main(String[] args) {
        int wrong = 0;
        long called = 0;
        for (int run = 1; run <= RUNS && wrong < 3; run++) {
            ModelTests one = new ModelTests(run);
            if (one.runIsWrong()) wrong++;
            called += one.called;
        }
        System.out.println("ModelTests: " + called + " calls, " + wrong + " runs not as due");
        if (wrong != 0) System.exit(1);
    }
}
