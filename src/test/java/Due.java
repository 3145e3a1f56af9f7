import java.lang.reflect.Method;
import java.lang.reflect.Modifier;
import java.util.ArrayList;
import java.util.Comparator;
import java.util.List;

/** Compares what a box answers with what is due, prints what is not, and ends with exit code 1 then. */
final class Due {
    private final String test;
    private int asked = 0;
    private int wrong = 0;

    Due(String test) {
        this.test = test;
    }

    void is(String call, long got, long want) {
        asked++;
        if (got != want) {
            wrong++;
            System.out.println(test + ": " + call + " answered " + got + ", due is " + want);
        }
    }

    void holds(String what, boolean so) {
        is(what, so ? 1 : 0, 1);
    }

    void end() {
        if (asked == 0) {
            System.out.println(test + ": nothing was asked");
            System.exit(1);
        }
        System.out.println(test + ": " + asked + " asked, " + wrong + " wrong");
        if (wrong != 0) {
            System.exit(1);
        }
    }

    /** All public methods, by name. */
    static List<Method> calls() {
        List<Method> calls = new ArrayList<>();
        for (Method method : BeansBox.class.getDeclaredMethods()) {
            if (Modifier.isPublic(method.getModifiers())) {
                calls.add(method);
            }
        }
        calls.sort(Comparator.comparing(Method::getName));
        return calls;
    }

    static void feed(BeansBox box, String text) {
        for (int i = 0; i < text.length(); i++) {
            box.feed(text.charAt(i));
        }
    }

    static int tell(BeansBox box, String text) {
        feed(box, text);
        return box.kitchen();
    }

    static BeansBox box(String text) {
        BeansBox box = new BeansBox();
        tell(box, text);
        return box;
    }

    /** All that can be read of a box without changing it, but for THE SEED and the place of a FAULT. */
    static String shown(BeansBox box) {
        StringBuilder all = new StringBuilder();
        for (int what = 0; what <= 12; what++) {
            all.append(box.told(what)).append(' ');
        }
        for (int w = 0; w < box.told(3); w++) {
            for (int what = 0; what <= 3; what++) {
                all.append(box.word(w, what)).append(' ');
            }
        }
        for (int v = 0; v < box.told(4); v++) {
            all.append(box.voice(v)).append(' ');
        }
        return all.append(box.speaker()).append(' ').append(box.judge()).toString();
    }

    /** As shown, and THE SEED, which is read by setting it and setting it back. */
    static String shownWithSeed(BeansBox box) {
        int seed = box.seed(0);
        box.seed(seed);
        return shown(box) + " seed " + seed;
    }
}
