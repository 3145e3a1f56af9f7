import java.lang.reflect.Method;
import java.util.Arrays;
import java.util.List;
import java.util.function.Function;

/**
 * Each number of each call at its bounds, one past them and far past them, in states full and empty: what is refused, of
 * several refusals the first in the document's order; that nothing changes by what is refused or only tried, and by the
 * other calls nothing but what they are for.
 */
public final class RefusalsTest {
    private static final int U = BeansBox.UNKNOWN, O = BeansBox.OUTSIDE, N = BeansBox.NOT, F = BeansBox.FULL;
    private static final int NO_BOUND = 50;
    private static final Due DUE = new Due("RefusalsTest");

    /** Each looks at what no other does, at a box of its own: a box is good for 512 calls. */
    private static final List<Function<BeansBox, String>> LOOKS = List.of(
            box -> Due.shownWithSeed(box) + " " + box.fault() + " " + box.sayNext(),
            RefusalsTest::undone, RefusalsTest::images, RefusalsTest::textGoesOn);

    private static final int UNDONE = 1, IMAGES = 2, TEXT = 3;
    private static final int[] ALL = {0, UNDONE, IMAGES, TEXT};

    public static void main(String[] args) throws ReflectiveOperationException {
        DUE.is("calls", Due.calls().size(), 36);
        for (State state : State.all()) {
            state.check(DUE);
            List<String> before = LOOKS.stream().map(look -> look.apply(state.make())).toList();
            for (Method call : Due.calls()) {
                everyNumber(state, call, before);
            }
        }
        DUE.end();
    }

    // ---- what the document refuses

    private static int first(int... refusals) {
        return Arrays.stream(refusals).filter(refusal -> refusal != 0).findFirst().orElse(0);
    }

    private static int unknown(int k, int howMany) {
        return k < 0 || k >= howMany ? U : 0;
    }

    private static int outside(int n, int least, int most) {
        return n < least || n > most ? O : 0;
    }

    private static int not(boolean so) {
        return so ? N : 0;
    }

    private static int full(boolean so) {
        return so ? F : 0;
    }

    /** 0 if it is not refused. */
    private static int refusal(State s, String call, int... a) {
        return switch (call) {
            case "feed" -> first(outside(a[0], 0, 255), full(s.letters == 240));
            case "told" -> outside(a[0], 0, 12);
            case "word" -> first(unknown(a[0], s.words), outside(a[1], 0, 3));
            case "voice" -> unknown(a[0], s.voices);
            case "hear" -> first(outside(a[0], 0, 999), not(s.words == 0), full(s.heard > 9000));
            case "takeBack" -> first(unknown(a[0], s.words), not(s.kept == -1 || s.kept == a[0]));
            case "letBe" -> not(s.kept == -1);
            case "call", "sure" -> first(unknown(a[0], s.words), outside(a[1], 0, 999));
            case "drift" -> first(outside(a[0], 1, 60), not(!s.stands), full(s.heard > 9000));
            case "undo" -> not(s.undone == 0);
            case "guess", "who" -> outside(a[0], 0, 999);
            case "rule" -> first(outside(a[0], 0, 999), not(s.words == 0));
            case "worth" -> first(outside(a[0], 0, 999), outside(a[1], 0, 2), not(s.words == 0));
            case "said" -> first(unknown(a[0], s.words), unknown(a[1], s.voices));
            case "meant" -> first(unknown(a[0], s.voices), outside(a[1], 0, 999));
            case "alike" -> outside(a[0], 0, 27);
            case "wake" -> outside(a[0], 0, 1);
            case "falsely" -> first(unknown(a[0], s.voices), outside(a[1], 0, 27));
            case "needs" -> first(unknown(a[0], s.words), unknown(a[1], s.voices), outside(a[2], 0, 1));
            case "bestCalled" -> first(unknown(a[0], s.words), outside(a[1], 0, 1));
            case "asks" -> outside(a[0], 0, 9999);
            case "waked" -> first(outside(a[0], 0, 60), outside(a[1], 0, 100));
            case "see" -> first(unknown(a[0], s.words), unknown(a[1], s.words), full(s.seen == 6));
            case "write" -> first(unknown(a[0], s.words), outside(a[1], 0, 99), full(s.entries == 15));
            case "seed" -> outside(a[0], 0, Integer.MAX_VALUE);
            case "keep" -> unknown(a[0], 2);
            case "goBack" -> first(unknown(a[0], 2), not((s.images >> (a[0] & 1) & 1) == 0));
            default -> 0;
        };
    }

    /** The greatest of each number that the call takes, to look beside it. */
    private static int[] greatest(State s, String call) {
        return switch (call) {
            case "feed" -> new int[] {255};
            case "told" -> new int[] {12};
            case "word" -> new int[] {s.words - 1, 3};
            case "voice" -> new int[] {s.voices - 1};
            case "hear", "guess", "who", "rule" -> new int[] {999};
            case "takeBack" -> new int[] {s.words - 1};
            case "call", "sure" -> new int[] {s.words - 1, 999};
            case "drift" -> new int[] {60};
            case "worth" -> new int[] {999, 2};
            case "said" -> new int[] {s.words - 1, s.voices - 1};
            case "misheard" -> new int[] {NO_BOUND};
            case "meant" -> new int[] {s.voices - 1, 999};
            case "alike" -> new int[] {27, NO_BOUND};
            case "wake", "keep", "goBack" -> new int[] {1};
            case "falsely" -> new int[] {s.voices - 1, 27};
            case "needs" -> new int[] {s.words - 1, s.voices - 1, 1};
            case "bestCalled" -> new int[] {s.words - 1, 1};
            case "asks" -> new int[] {9999};
            case "waked" -> new int[] {60, 100};
            case "see" -> new int[] {s.words - 1, s.words - 1};
            case "write" -> new int[] {s.words - 1, 99};
            case "seed" -> new int[] {Integer.MAX_VALUE - 1000};
            default -> new int[0];
        };
    }

    private static int[] beside(int greatest) {
        return new int[] {Integer.MIN_VALUE, -1000000001, -2, -1, 0, 1, greatest - 1, greatest, greatest + 1,
            greatest + 1000, Integer.MAX_VALUE};
    }

    // ---- calls

    private static void everyNumber(State state, Method call, List<String> before) throws ReflectiveOperationException {
        int[] greatest = greatest(state, call.getName());
        DUE.is("numbers of " + call.getName(), greatest.length, call.getParameterCount());
        int[] args = new int[greatest.length];
        everyNumberFrom(state, call, greatest, args, 0, before);
    }

    private static void everyNumberFrom(State state, Method call, int[] greatest, int[] args, int from, List<String> before)
            throws ReflectiveOperationException {
        if (from == args.length) {
            one(state, call, args, before);
            return;
        }
        for (int value : Arrays.stream(beside(greatest[from])).distinct().toArray()) {
            args[from] = value;
            everyNumberFrom(state, call, greatest, args, from + 1, before);
        }
    }

    private static int invoke(BeansBox box, Method call, int[] args) throws ReflectiveOperationException {
        return (Integer) call.invoke(box, Arrays.stream(args).boxed().toArray());
    }

    private static void one(State state, Method call, int[] args, List<String> before) throws ReflectiveOperationException {
        String name = state.name + ": " + call.getName() + Arrays.toString(args);
        int want = refusal(state, call.getName(), args);
        int got = invoke(state.make(), call, args);
        if (want == 0) {
            DUE.holds(name + " answered " + got + ", should not be refused", got >= -13);
        } else {
            DUE.is(name, got, want);
        }
        // far numbers are refused as near ones are: looking at the near ones is enough, and quicker
        if (Arrays.stream(args).allMatch(a -> a >= -2 && a <= 10001)) {
            for (int i : want == 0 ? leaves(call.getName()) : ALL) {
                BeansBox box = state.make();
                invoke(box, call, args);
                DUE.holds(name + " answered " + got + " and changes what look " + i + " sees",
                        before.get(i).equals(LOOKS.get(i).apply(box)));
            }
        }
    }

    /** The looks that see the same behind the call, though it is not refused. */
    private static int[] leaves(String call) {
        return switch (call) {
            case "feed" -> new int[] {UNDONE, IMAGES};
            case "kitchen" -> new int[0];
            case "hear", "takeBack", "letBe", "call", "drift", "undo", "keep", "goBack" -> new int[] {TEXT};
            case "see", "write", "tear" -> new int[] {UNDONE, IMAGES, TEXT};
            case "seed" -> new int[] {UNDONE, TEXT};
            default -> ALL;
        };
    }

    // ---- looks

    private static String ofSectionTwo(BeansBox box) {
        StringBuilder all = new StringBuilder();
        for (int what = 6; what <= 9; what++) {
            all.append(box.told(what)).append(' ');
        }
        for (int w = 0; w < Math.min(box.told(3), 3); w++) {
            all.append(box.word(w, 0)).append(' ').append(box.word(w, 1)).append(' ').append(box.word(w, 3)).append(' ');
        }
        return all.toString();
    }

    private static String undone(BeansBox box) {
        StringBuilder all = new StringBuilder();
        for (int i = 0; i < 21; i++) {
            // the last WORD is what is CALLED where all is full
            all.append(box.undo()).append(' ').append(i < 4 ? ofSectionTwo(box) : "").append(box.word(7, 0)).append(' ');
        }
        return all.toString();
    }

    private static String images(BeansBox box) {
        return box.goBack(0) + ofSectionTwo(box) + box.seed(1) + " " + box.goBack(1) + ofSectionTwo(box) + box.seed(1);
    }

    private static String textGoesOn(BeansBox box) {
        if (box.told(5) < 240) {
            Due.feed(box, " 7;");
        }
        return box.kitchen() + " " + box.fault() + " " + box.told(0) + " " + box.told(1) + " " + box.told(2);
    }
}
