import java.lang.reflect.Method;
import java.util.ArrayList;
import java.util.List;
import java.util.Random;

/** Random runs of 512 calls at most, answered by a BeansBox and by the Oracle. */
public final class OracleTest {
    private static final Due DUE = new Due("OracleTest");
    private static final String[] DEEDS = {"hear", "takeBack", "letBe", "call", "drift", "undo"};
    /** The oracle tries every SOUND for these: they come less often. */
    private static final List<String> DEAR = List.of("bestCalled", "wake", "needs");

    private final Random random;
    private final BeansBox box = new BeansBox();
    private final Oracle oracle = new Oracle();
    private final StringBuilder story = new StringBuilder();
    private final int run;

    private OracleTest(int run) {
        this.run = run;
        random = new Random(run);
    }

    public static void main(String[] args) throws ReflectiveOperationException {
        int runs = args.length > 0 ? Integer.parseInt(args[0]) : 400;
        for (int run = 0; run < runs; run++) {
            for (int i = 0; i < 6; i++) {
                new OracleTest(10 * run + i).texts(2);
            }
            new OracleTest(run).calls();
        }
        DUE.end();
    }

    private int both(Method call, Object... args) throws ReflectiveOperationException {
        story.append(call.getName()).append(List.of(args)).append(' ');
        Class<?>[] types = call.getParameterTypes();
        int got = (Integer) call.invoke(box, args);
        int want = (Integer) Oracle.class.getMethod(call.getName(), types).invoke(oracle, args);
        if (got != want) {
            System.out.println("run " + run + ": " + story);
        }
        DUE.is("run " + run + ": " + call.getName() + List.of(args), got, want);
        return want;
    }

    private int both(String name, int... args) throws ReflectiveOperationException {
        Class<?>[] types = new Class<?>[args.length];
        Object[] all = new Object[args.length];
        for (int i = 0; i < args.length; i++) {
            types[i] = int.class;
            all[i] = args[i];
        }
        return both(BeansBox.class.getMethod(name, types), all);
    }

    private int tell(String text) throws ReflectiveOperationException {
        for (int i = 0; i < text.length(); i++) {
            both("feed", text.charAt(i));
        }
        int words = both("kitchen");
        both("fault");
        return words;
    }

    // ---- texts, good and bad

    private void texts(int count) throws ReflectiveOperationException {
        for (int i = 0; i < count; i++) {
            String text = text(random.nextInt(10), random.nextInt(6), 999, 99);
            for (int k = random.nextInt(4); k > 0; k--) {
                text = spoiled(text);
            }
            tell(text);
            for (int what = 0; what <= 12; what++) {
                both("told", what);
            }
            for (int w = 0; w < 9; w++) {
                both("word", w, random.nextInt(4));
                both("voice", w);
            }
        }
    }

    private String text(int words, int voices, int sounds, int most) {
        List<String> rest = new ArrayList<>();
        for (int i = 0; i < words; i++) {
            rest.add(random.nextInt(rest.size() + 1), clause('w', up(sounds), up(most), up(most)));
        }
        for (int i = 0; i < voices; i++) {
            rest.add(random.nextInt(rest.size() + 1), clause('v', up(sounds)));
        }
        return clause('b', up(most), up(most), up(sounds)) + String.join("", rest);
    }

    private int up(int most) {
        return random.nextInt(8) == 0 ? most : random.nextInt(most + 1);
    }

    private String clause(char head, int... numbers) {
        StringBuilder all = new StringBuilder().append(head);
        for (int i = 0; i < numbers.length; i++) {
            all.append(" ".repeat((i > 0 ? 1 : 0) + (random.nextInt(9) == 0 ? 1 : 0)));
            all.append(random.nextInt(9) == 0 && numbers[i] < 100 ? "0" : "").append(numbers[i]);
        }
        return all.append(';').toString();
    }

    private String spoiled(String text) {
        String signs = "bwv;; 0199x";
        int at = random.nextInt(text.length() + 1);
        char sign = signs.charAt(random.nextInt(signs.length()));
        return switch (random.nextInt(4)) {
            case 0 -> text.substring(0, at) + sign + text.substring(at);
            case 1 -> text.substring(0, at);
            case 2 -> text.substring(0, at) + text.substring(Math.min(at + 1, text.length()));
            default -> text.substring(0, at) + sign + text.substring(Math.min(at + 1, text.length()));
        };
    }

    // ---- calls

    private void calls() throws ReflectiveOperationException {
        List<Method> calls = Due.calls();
        calls.removeIf(call -> List.of("feed", "kitchen").contains(call.getName()));
        // few SOUNDS and small numbers make many that are alike
        int[] sounds = {999, 99, 9, 3};
        int[] much = {99, 20, 3};
        int kinds = random.nextInt(12);
        String text = text(random.nextInt(9), random.nextInt(5), sounds[kinds % 4], much[kinds % 3]);
        tell(text);
        for (int i = story.toString().split(" ").length; i < 512; i++) {
            Method call = random.nextInt(5) < 3 ? calls.get(random.nextInt(calls.size()))
                    : method(calls, DEEDS[random.nextInt(DEEDS.length)]);
            if (DEAR.contains(call.getName()) && random.nextInt(4) > 0) {
                call = method(calls, "told");
            }
            both(call, arguments(call, sounds[kinds % 4]));
        }
    }

    private static Method method(List<Method> calls, String name) {
        return calls.stream().filter(call -> call.getName().equals(name)).findFirst().orElseThrow();
    }

    private Object[] arguments(Method call, int sounds) {
        Object[] args = new Object[call.getParameterCount()];
        for (int k = 0; k < args.length; k++) {
            args[k] = random.nextInt(40) == 0 ? random.nextInt() : argument(call.getName(), k, sounds);
        }
        return args;
    }

    private int argument(String name, int k, int sounds) {
        String kind = switch (name) {
            case "hear", "guess", "rule", "who" -> "sound";
            case "sure", "call" -> k == 0 ? "word" : "sound";
            case "worth" -> k == 0 ? "sound" : "what";
            case "meant" -> k == 0 ? "voice" : "sound";
            case "said" -> k == 0 ? "word" : "voice";
            case "needs" -> k == 0 ? "word" : k == 1 ? "voice" : "what";
            case "bestCalled", "word" -> k == 0 ? "word" : "what";
            case "wake", "keep", "goBack" -> "what";
            case "voice" -> "voice";
            case "alike" -> k == 0 ? "far" : "many";
            case "falsely" -> k == 0 ? "voice" : "far";
            case "misheard", "told" -> "many";
            case "asks" -> "much";
            case "waked" -> k == 0 ? "words" : "odds";
            case "drift" -> "words";
            case "write" -> k == 0 ? "word" : "times";
            case "seed" -> "seed";
            default -> "word";
        };
        return switch (kind) {
            case "sound" -> random.nextInt(3) == 0 ? random.nextInt(1002) - 1 : random.nextInt(sounds + 1);
            case "voice" -> random.nextInt(6) - (random.nextInt(9) == 0 ? 1 : 0);
            case "what" -> random.nextInt(4) - (random.nextInt(9) == 0 ? 1 : 0);
            case "far" -> random.nextInt(31) - 1;
            case "many" -> random.nextInt(15) - 2;
            case "much" -> random.nextInt(10002) - 1;
            case "words" -> random.nextInt(63) - 1;
            case "odds" -> random.nextInt(103) - 1;
            case "times" -> random.nextInt(4) - (random.nextInt(9) == 0 ? 1 : 0);
            case "seed" -> random.nextInt();
            default -> random.nextInt(9) - (random.nextInt(9) == 0 ? 1 : 0);
        };
    }
}
