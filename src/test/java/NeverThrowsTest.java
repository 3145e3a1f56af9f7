import java.lang.reflect.InvocationTargetException;
import java.lang.reflect.Method;
import java.util.List;
import java.util.Random;

/** Every call with ints near and far, in many states: none throws, and what is refused changes nothing. */
public final class NeverThrowsTest {
    private static final Due DUE = new Due("NeverThrowsTest");
    private static final int[] INTS = {Integer.MIN_VALUE, Integer.MIN_VALUE + 1, -1000000005, -1000000001, -65536, -1000,
        -256, -100, -28, -9, -8, -5, -3, -2, -1, 0, 1, 2, 3, 4, 5, 6, 7, 8, 9, 12, 13, 14, 15, 16, 27, 28, 32, 60, 61, 99,
        100, 101, 240, 255, 256, 999, 1000, 9999, 10000, 65536, 1000000, 715827883, 1073741824, Integer.MAX_VALUE - 1,
        Integer.MAX_VALUE};
    private static final String[] TEXTS = {"", "b0 0 0;", "b0 0 0;v9;", "b1 2 3;w9 9 9;", "b5 7 999;w100 9 10;w109 9 50;v0;v9;",
        "b3 1 999;w100 99 99;w109 99 99;w0 0 0;w999 0 99;w1 1 1;w2 2 2;w3 3 3;w4 4 4;v0;v999;v1;v500;"};

    public static void main(String[] args) {
        for (String text : TEXTS) {
            everyInt(text);
            anyRun(text);
        }
        DUE.end();
    }

    private static BeansBox used(String text) {
        BeansBox box = Due.box(text);
        box.seed(11);
        box.drift(7);
        box.keep(1);
        box.call(0, 5);
        box.hear(5);
        box.see(0, 0);
        box.write(0, 1);
        Due.feed(box, "b1 ");
        return box;
    }

    private static void everyInt(String text) {
        for (Method call : Due.calls()) {
            int count = call.getParameterCount();
            if (count == 0) {
                one(used(text), call);
            }
            for (int a : INTS) {
                if (count == 1) {
                    one(used(text), call, a);
                }
                for (int b : count >= 2 ? INTS : new int[0]) {
                    if (count == 2) {
                        one(used(text), call, a, b);
                    }
                    for (int c : count == 3 && near(a) && near(b) ? INTS : new int[0]) {
                        one(used(text), call, a, b, c);
                    }
                }
            }
        }
    }

    private static boolean near(int a) {
        return Math.abs((long) a) < 10 || a == Integer.MAX_VALUE || a == Integer.MIN_VALUE;
    }

    private static int one(BeansBox box, Method call, Object... args) {
        String before = Due.shownWithSeed(box);
        int answer = invoke(box, call, args);
        boolean refused = answer >= BeansBox.FULL && answer <= BeansBox.UNKNOWN;
        DUE.holds(name(call, args) + " answered " + answer, refused || answer >= -13);
        if (refused) {
            DUE.holds(name(call, args) + ": what is refused changes nothing", before.equals(Due.shownWithSeed(box)));
        }
        return answer;
    }

    private static String name(Method call, Object... args) {
        return call.getName() + List.of(args);
    }

    private static int invoke(BeansBox box, Method call, Object... args) {
        try {
            return (Integer) call.invoke(box, args);
        } catch (InvocationTargetException thrown) {
            DUE.holds(name(call, args) + " threw " + thrown.getCause(), false);
        } catch (IllegalAccessException none) {
            DUE.holds(name(call, args) + " can be called", false);
        }
        return BeansBox.NOT;
    }

    private static void anyRun(String text) {
        List<Method> calls = Due.calls();
        Random random = new Random(text.length());
        for (int run = 0; run < 60; run++) {
            BeansBox box = new BeansBox();
            Due.tell(box, text);
            for (int i = 0; i < 400; i++) {
                Method call = calls.get(random.nextInt(calls.size()));
                Object[] args = new Object[call.getParameterCount()];
                for (int k = 0; k < args.length; k++) {
                    args[k] = random.nextInt(3) == 0 ? INTS[random.nextInt(INTS.length)] : random.nextInt(9) - 1;
                }
                if (!call.getName().equals("kitchen") || random.nextInt(20) == 0) {
                    invoke(box, call, args);
                }
            }
        }
        DUE.holds("ran", true);
    }
}
