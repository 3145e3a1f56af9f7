import java.math.BigInteger;
import java.util.ArrayDeque;
import java.util.ArrayList;
import java.util.Comparator;
import java.util.Deque;
import java.util.HashMap;
import java.util.List;
import java.util.Map;
import java.util.Optional;
import java.util.function.IntPredicate;
import java.util.stream.Collectors;
import java.util.stream.IntStream;

/** The document once more, by other means: values that never change, streams, big numbers, a text cut into pieces first. */
public final class Oracle {
    private static final int NONE = -1, UNKNOWN = -1000000001, OUTSIDE = -1000000002, NOT = -1000000003, FULL = -1000000004;

    record Word(String sound, int usual, int cost, int listed) {
        Word usualBy(int more) {
            return new Word(sound, clip(usual + more), cost, listed);
        }

        Word listedBy(int more) {
            return new Word(sound, usual, cost, clip(listed + more));
        }
    }

    record Deeds(List<Word> words, int cross, int heard, int kept) {
        Deeds with(int w, Word word) {
            List<Word> all = new ArrayList<>(words);
            all.set(w, word);
            return new Deeds(List.copyOf(all), cross, heard, kept);
        }

        Deeds keeping(int guess) {
            return new Deeds(words, cross, heard, guess);
        }
    }

    record Told(boolean is, int ask, int silence, String wakes, List<String> voices) {
    }

    record Image(Deeds deeds, BigInteger seed) {
    }

    private static final Deeds EMPTY = new Deeds(List.of(), 0, 0, NONE);

    private StringBuilder text = new StringBuilder();
    private int faultAt = NONE;
    private Told told = new Told(false, 0, 0, "000", List.of());
    private Deeds now = EMPTY;
    private BigInteger seed = BigInteger.ZERO;
    private final Deque<Deeds> past = new ArrayDeque<>();
    private final Map<Integer, Image> images = new HashMap<>();
    private final List<int[]> seen = new ArrayList<>();
    private final List<int[]> book = new ArrayList<>();

    private static int clip(int n) {
        return n < 0 ? 0 : n > 99 ? 99 : n;
    }

    private static String parts(int sound) {
        return String.format("%03d", sound);
    }

    private static boolean within(int n, int least, int most) {
        return least <= n && n <= most;
    }

    private static int set(int end, IntPredicate in) {
        return IntStream.range(0, end).filter(in).map(k -> (int) Math.pow(2, k)).sum();
    }

    private boolean noWord(int w) {
        return !within(w, 0, now.words.size() - 1);
    }

    private boolean noVoice(int v) {
        return !within(v, 0, told.voices.size() - 1);
    }

    // ---- the kitchen

    public int feed(int letter) {
        if (!within(letter, 0, 255)) {
            return OUTSIDE;
        }
        if (text.length() == 240) {
            return FULL;
        }
        return text.append((char) letter).length();
    }

    record Piece(int at, String letters) {
        boolean number() {
            return letters.charAt(0) >= '0' && letters.charAt(0) <= '9';
        }
    }

    private static List<Piece> pieces(String text) {
        List<Piece> all = new ArrayList<>();
        int at = 0;
        while (at < text.length()) {
            String rest = text.substring(at);
            String figures = rest.replaceFirst("(?s)[^0-9].*", "");
            String piece = figures.isEmpty() ? rest.substring(0, 1) : figures;
            if (!piece.equals(" ")) {
                all.add(new Piece(at, piece));
            }
            at += piece.length();
        }
        return all;
    }

    /** The text's FAULT as {place, number}, and what was told up to it. */
    private static int[] fault(String text, List<List<Integer>> clauses, List<Character> heads) {
        List<Piece> all = pieces(text);
        Map<Character, int[]> bounds = Map.of('b', new int[] {99, 99, 999}, 'w', new int[] {999, 99, 99}, 'v', new int[] {999});
        Map<Character, Integer> most = Map.of('b', 1, 'w', 8, 'v', 4);
        int i = 0;
        while (i < all.size()) {
            Piece head = all.get(i++);
            char letter = head.letters.charAt(0);
            if (!bounds.containsKey(letter) || heads.isEmpty() && letter != 'b') {
                return new int[] {head.at, 1};
            }
            if (heads.stream().filter(h -> h == letter).count() == most.get(letter)) {
                return new int[] {head.at, 3};
            }
            List<Integer> numbers = new ArrayList<>();
            for (int bound : bounds.get(letter)) {
                if (i == all.size()) {
                    return new int[] {text.length(), 1};
                }
                Piece number = all.get(i++);
                if (!number.number()) {
                    return new int[] {number.at, 1};
                }
                if (number.letters.length() > 3 || Integer.parseInt(number.letters) > bound) {
                    return new int[] {number.at, 2};
                }
                numbers.add(Integer.parseInt(number.letters));
            }
            if (i == all.size()) {
                return new int[] {text.length(), 1};
            }
            Piece end = all.get(i++);
            if (!end.letters.equals(";")) {
                return new int[] {end.at, 1};
            }
            heads.add(letter);
            clauses.add(numbers);
        }
        return null;
    }

    public int kitchen() {
        String read = text.toString();
        text = new StringBuilder();
        List<List<Integer>> clauses = new ArrayList<>();
        List<Character> heads = new ArrayList<>();
        int[] fault = fault(read, clauses, heads);
        faultAt = fault == null ? NONE : fault[0];
        if (fault != null) {
            return -10 - fault[1];
        }
        List<Word> words = new ArrayList<>();
        List<String> voices = new ArrayList<>();
        told = new Told(false, 0, 0, "000", List.of());
        for (int i = 0; i < heads.size(); i++) {
            List<Integer> numbers = clauses.get(i);
            switch (heads.get(i)) {
                case 'b' -> told = new Told(true, numbers.get(0), numbers.get(1), parts(numbers.get(2)), List.of());
                case 'w' -> words.add(new Word(parts(numbers.get(0)), numbers.get(1), numbers.get(2), 0));
                default -> voices.add(parts(numbers.get(0)));
            }
        }
        told = new Told(told.is, told.ask, told.silence, told.wakes, voices);
        now = new Deeds(List.copyOf(words), 0, 0, NONE);
        past.clear();
        images.clear();
        seen.clear();
        book.clear();
        return words.size();
    }

    public int fault() {
        return faultAt;
    }

    public int told(int what) {
        int[] all = {told.ask, told.silence, Integer.parseInt(told.wakes), now.words.size(), told.voices.size(), text.length(),
            now.heard, now.cross, now.kept, now.words.stream().mapToInt(Word::listed).sum(), seen.size(), book.size(),
            past.size()};
        return within(what, 0, 12) ? all[what] : OUTSIDE;
    }

    public int word(int w, int what) {
        if (noWord(w)) {
            return UNKNOWN;
        }
        Word its = now.words.get(w);
        return switch (what) {
            case 0 -> Integer.parseInt(its.sound);
            case 1 -> its.usual;
            case 2 -> its.cost;
            case 3 -> its.listed;
            default -> OUTSIDE;
        };
    }

    public int voice(int v) {
        return noVoice(v) ? UNKNOWN : Integer.parseInt(told.voices.get(v));
    }

    // ---- sounds, weights, the rule

    private static int apart(String a, String b) {
        return IntStream.range(0, 3).map(k -> Math.max(a.charAt(k), b.charAt(k)) - Math.min(a.charAt(k), b.charAt(k))).sum();
    }

    private static String shifted(String sound, String by) {
        return IntStream.range(0, 3).mapToObj(k -> "" + (sound.charAt(k) + by.charAt(k) - 2 * '0') % 10)
                .collect(Collectors.joining());
    }

    private static BigInteger weight(Word word, String sound) {
        return BigInteger.valueOf(word.usual + 1).multiply(BigInteger.valueOf(28 - apart(word.sound, sound)));
    }

    private static int guessOf(Deeds deeds, String sound) {
        List<Integer> order = new ArrayList<>(IntStream.range(0, deeds.words.size()).boxed().toList());
        order.sort(Comparator.comparing((Integer w) -> weight(deeds.words.get(w), sound).negate()).thenComparing(w -> w));
        return order.isEmpty() ? NONE : order.get(0);
    }

    private static BigInteger sureOf(Deeds deeds, int w, String sound) {
        BigInteger all = deeds.words.stream().map(word -> weight(word, sound)).reduce(BigInteger.ZERO, BigInteger::add);
        return weight(deeds.words.get(w), sound).multiply(BigInteger.valueOf(1000000)).divide(all);
    }

    private List<Integer> costs(Deeds deeds, String sound) {
        int g = guessOf(deeds, sound);
        BigInteger million = BigInteger.valueOf(1000000);
        BigInteger wrong = million.subtract(sureOf(deeds, g, sound)).multiply(BigInteger.valueOf(deeds.words.get(g).cost));
        return List.of(wrong.divide(million).intValueExact(), told.ask, told.silence);
    }

    private int ruleOf(Deeds deeds, String sound) {
        List<Integer> costs = costs(deeds, sound);
        return costs.indexOf(costs.stream().min(Comparator.naturalOrder()).get());
    }

    private String saidBy(int w, int v) {
        return shifted(now.words.get(w).sound, told.voices.get(v));
    }

    // ---- what is done

    private int heard(String sound) {
        int what = ruleOf(now, sound);
        int g = guessOf(now, sound);
        Deeds after = what == 0 ? now.with(g, now.words.get(g).listedBy(1)) : now;
        now = new Deeds(after.words, after.cross + (what == 1 ? 1 : 0), after.heard + 1, g);
        return what;
    }

    private void backTo(int w) {
        int g = now.kept;
        now = now.with(g, now.words.get(g).listedBy(-1).usualBy(-1));
        now = now.with(w, now.words.get(w).usualBy(2).listedBy(1)).keeping(NONE);
    }

    private void leave() {
        now = now.with(now.kept, now.words.get(now.kept).usualBy(1)).keeping(NONE);
    }

    private void deed() {
        past.addLast(now);
        if (past.size() > 20) {
            past.removeFirst();
        }
    }

    public int hear(int sound) {
        if (!within(sound, 0, 999)) {
            return OUTSIDE;
        }
        if (now.words.isEmpty()) {
            return NOT;
        }
        if (now.heard > 9000) {
            return FULL;
        }
        deed();
        return heard(parts(sound));
    }

    public int takeBack(int w) {
        if (noWord(w)) {
            return UNKNOWN;
        }
        if (now.kept == NONE || now.kept == w) {
            return NOT;
        }
        deed();
        backTo(w);
        return now.words.get(w).usual;
    }

    public int letBe() {
        if (now.kept == NONE) {
            return NOT;
        }
        deed();
        int g = now.kept;
        leave();
        return now.words.get(g).usual;
    }

    public int call(int w, int sound) {
        if (noWord(w)) {
            return UNKNOWN;
        }
        if (!within(sound, 0, 999)) {
            return OUTSIDE;
        }
        deed();
        Word was = now.words.get(w);
        now = now.with(w, new Word(parts(sound), was.usual, was.cost, was.listed));
        return apart(was.sound, parts(sound));
    }

    private int draw(int n) {
        seed = seed.multiply(BigInteger.valueOf(1103515245)).add(BigInteger.valueOf(12345)).mod(BigInteger.TWO.pow(31));
        return seed.divide(BigInteger.valueOf(65536)).mod(BigInteger.valueOf(n)).intValueExact();
    }

    public int drift(int n) {
        if (!within(n, 1, 60)) {
            return OUTSIDE;
        }
        if (!told.is) {
            return NOT;
        }
        if (now.heard > 9000) {
            return FULL;
        }
        deed();
        for (int i = 0; i < n && !now.words.isEmpty() && !told.voices.isEmpty(); i++) {
            int v = draw(told.voices.size());
            int w = draw(now.words.size());
            heard(saidBy(w, v));
            int third = draw(3);
            if (third == 0 && now.kept != w) {
                backTo(w);
            } else {
                leave();
            }
        }
        return now.cross;
    }

    public int undo() {
        if (past.isEmpty()) {
            return NOT;
        }
        now = past.removeLast();
        return past.size();
    }

    // ---- tried

    public int guess(int sound) {
        return within(sound, 0, 999) ? guessOf(now, parts(sound)) : OUTSIDE;
    }

    public int sure(int w, int sound) {
        if (noWord(w)) {
            return UNKNOWN;
        }
        return within(sound, 0, 999) ? sureOf(now, w, parts(sound)).intValueExact() : OUTSIDE;
    }

    public int rule(int sound) {
        if (!within(sound, 0, 999)) {
            return OUTSIDE;
        }
        return now.words.isEmpty() ? NOT : ruleOf(now, parts(sound));
    }

    public int worth(int sound, int what) {
        if (!within(sound, 0, 999) || !within(what, 0, 2)) {
            return OUTSIDE;
        }
        return now.words.isEmpty() ? NOT : costs(now, parts(sound)).get(what);
    }

    public int said(int w, int v) {
        return noWord(w) || noVoice(v) ? UNKNOWN : Integer.parseInt(saidBy(w, v));
    }

    private static int counted(List<Integer> all, int i) {
        if (i == NONE) {
            return all.size();
        }
        return within(i, 0, all.size() - 1) ? all.get(i) : NONE;
    }

    public int misheard(int i) {
        List<Integer> all = new ArrayList<>();
        for (int both = 0; both < 40; both++) {
            int v = both / 10;
            int w = both % 10;
            if (!noVoice(v) && !noWord(w) && guessOf(now, saidBy(w, v)) != w) {
                all.add(both);
            }
        }
        return counted(all, i);
    }

    public int who(int sound) {
        return within(sound, 0, 999) ? set(told.voices.size(), v -> meant(v, sound) > 0) : OUTSIDE;
    }

    public int meant(int v, int sound) {
        if (noVoice(v)) {
            return UNKNOWN;
        }
        return within(sound, 0, 999) ? set(now.words.size(), w -> saidBy(w, v).equals(parts(sound))) : OUTSIDE;
    }

    public int alike(int n, int i) {
        if (!within(n, 0, 27)) {
            return OUTSIDE;
        }
        List<Integer> all = new ArrayList<>();
        for (int both = 0; both < 80; both++) {
            int a = both / 10;
            int b = both % 10;
            if (a < b && !noWord(b) && apart(now.words.get(a).sound, now.words.get(b).sound) <= n) {
                all.add(both);
            }
        }
        return counted(all, i);
    }

    private int quiet(int sound) {
        return now.words.stream().mapToInt(word -> apart(word.sound, parts(sound))).min().orElse(27);
    }

    public int wake(int what) {
        if (!within(what, 0, 1)) {
            return OUTSIDE;
        }
        int most = IntStream.range(0, 1000).map(this::quiet).max().getAsInt();
        return what == 1 ? most : IntStream.range(0, 1000).filter(sound -> quiet(sound) == most).min().getAsInt();
    }

    public int falsely(int v, int n) {
        if (noVoice(v)) {
            return UNKNOWN;
        }
        return within(n, 0, 27) ? set(now.words.size(), w -> apart(saidBy(w, v), told.wakes) <= n) : OUTSIDE;
    }

    public int needs(int w, int v, int what) {
        if (noWord(w) || noVoice(v)) {
            return UNKNOWN;
        }
        if (!within(what, 0, 1)) {
            return OUTSIDE;
        }
        Word its = now.words.get(w);
        return IntStream.rangeClosed(0, 99).filter(usual -> {
            Deeds tried = now.with(w, new Word(its.sound, usual, its.cost, its.listed));
            boolean guessed = guessOf(tried, saidBy(w, v)) == w;
            return guessed && (what == 0 || ruleOf(tried, saidBy(w, v)) == 0);
        }).min().orElse(NONE);
    }

    record Name(int sound, int voices, int far) {
    }

    public int bestCalled(int w, int what) {
        if (noWord(w)) {
            return UNKNOWN;
        }
        if (!within(what, 0, 1)) {
            return OUTSIDE;
        }
        Word its = now.words.get(w);
        List<Name> names = new ArrayList<>();
        for (int sound = 999; sound >= 0; sound--) {
            String called = parts(sound);
            Deeds tried = now.with(w, new Word(called, its.usual, its.cost, its.listed));
            int voices = (int) told.voices.stream().filter(by -> guessOf(tried, shifted(called, by)) == w).count();
            names.add(new Name(sound, voices, apart(called, its.sound)));
        }
        Optional<Name> best = names.stream().min(Comparator.comparing((Name name) -> -name.voices)
                .thenComparing(Name::far).thenComparing(Name::sound));
        return what == 0 ? best.get().sound : best.get().voices;
    }

    public int asks(int much) {
        if (!within(much, 0, 9999)) {
            return OUTSIDE;
        }
        long times = 99;
        while (times > 0 && times * (told.ask + now.cross) + times * (times - 1) / 2 > much) {
            times--;
        }
        return (int) times;
    }

    public int waked(int n, int q) {
        if (!within(n, 0, 60) || !within(q, 0, 100)) {
            return OUTSIDE;
        }
        BigInteger odds = BigInteger.TEN.pow(9);
        for (int i = 0; i < n; i++) {
            odds = odds.multiply(BigInteger.valueOf(100 - q)).divide(BigInteger.valueOf(100));
        }
        return odds.intValueExact();
    }

    // ---- what is seen

    public int see(int w, int g) {
        if (noWord(w) || noWord(g)) {
            return UNKNOWN;
        }
        if (seen.size() == 6) {
            return FULL;
        }
        seen.add(new int[] {w, g});
        return seen.size();
    }

    public int speaker() {
        return set(told.voices.size(), v -> seen.stream().allMatch(pair -> guessOf(now, saidBy(pair[0], v)) == pair[1]));
    }

    public int sayNext() {
        int speakers = speaker();
        List<Integer> voices = IntStream.range(0, told.voices.size()).filter(v -> speakers / (1 << v) % 2 == 1).boxed().toList();
        int best = NONE;
        long least = voices.size();
        for (int w = now.words.size() - 1; w >= 0; w--) {
            int word = w;
            Map<Integer, Long> parts = voices.stream()
                    .collect(Collectors.groupingBy(v -> guessOf(now, saidBy(word, v)), Collectors.counting()));
            long greatest = parts.values().stream().mapToLong(part -> part).max().orElse(0);
            if (parts.size() > 1 && greatest <= least) {
                best = w;
                least = greatest;
            }
        }
        return best;
    }

    public int write(int w, int times) {
        if (noWord(w)) {
            return UNKNOWN;
        }
        if (!within(times, 0, 99)) {
            return OUTSIDE;
        }
        if (book.size() == 15) {
            return FULL;
        }
        book.add(new int[] {w, times});
        return book.size();
    }

    public int tear() {
        int both = seen.size() + book.size();
        seen.clear();
        book.clear();
        return both;
    }

    public int judge() {
        return IntStream.range(0, book.size()).filter(i -> now.words.get(book.get(i)[0]).listed != book.get(i)[1])
                .findFirst().orElse(NONE);
    }

    // ---- draws, images

    public int seed(int v) {
        if (v < 0) {
            return OUTSIDE;
        }
        int was = seed.intValueExact();
        seed = BigInteger.valueOf(v);
        return was;
    }

    public int keep(int i) {
        if (!within(i, 0, 1)) {
            return UNKNOWN;
        }
        images.put(i, new Image(now, seed));
        past.clear();
        return 1;
    }

    public int goBack(int i) {
        if (!within(i, 0, 1)) {
            return UNKNOWN;
        }
        if (!images.containsKey(i)) {
            return NOT;
        }
        now = images.get(i).deeds;
        seed = images.get(i).seed;
        past.clear();
        return 1;
    }
}
