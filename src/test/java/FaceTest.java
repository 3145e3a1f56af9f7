import java.io.IOException;
import java.lang.reflect.Constructor;
import java.lang.reflect.Field;
import java.lang.reflect.Method;
import java.lang.reflect.Modifier;
import java.nio.file.Files;
import java.nio.file.Path;
import java.util.ArrayList;
import java.util.List;
import java.util.Set;
import java.util.TreeSet;
import java.util.regex.Matcher;
import java.util.regex.Pattern;

/** The public face, and what of LANGUAGE.md a plain look at the class and its source can find. */
public final class FaceTest {
    private static final Due DUE = new Due("FaceTest");
    private static final Path SOURCE = Path.of("src/main/java/BeansBox.java");
    private static final Path DOCUMENT = Path.of("../shared/DOC.md");

    public static void main(String[] args) throws IOException {
        face();
        lines();
        sections();
        members();
        nestedClasses();
        source();
        DUE.end();
    }

    private static void face() throws IOException {
        Set<String> want = new TreeSet<>();
        Matcher told = Pattern.compile("public int (\\w+)\\(([^)]*)\\);").matcher(Files.readString(DOCUMENT));
        while (told.find()) {
            want.add(told.group(1) + " " + (told.group(2).isBlank() ? 0 : told.group(2).split(",").length));
        }
        DUE.is("methods of the document", want.size(), 36);
        Set<String> got = new TreeSet<>();
        for (Method method : BeansBox.class.getDeclaredMethods()) {
            if (Modifier.isPublic(method.getModifiers())) {
                got.add(method.getName() + " " + method.getParameterCount());
                DUE.holds(method + " answers an int", method.getReturnType() == int.class);
                DUE.holds(method + " is not static", !Modifier.isStatic(method.getModifiers()));
                for (Class<?> type : method.getParameterTypes()) {
                    DUE.holds(method + " takes ints", type == int.class);
                }
            }
        }
        DUE.holds("the methods are " + want + " but are " + got, want.equals(got));
        DUE.holds("public and final", Modifier.isPublic(BeansBox.class.getModifiers())
                && Modifier.isFinal(BeansBox.class.getModifiers()));
        Constructor<?>[] made = BeansBox.class.getDeclaredConstructors();
        DUE.holds("one public constructor", made.length == 1 && Modifier.isPublic(made[0].getModifiers())
                && made[0].getParameterCount() == 0);
    }

    /** Each line of the document's face stands in the source as it is, in its order: constants, their values, names of numbers. */
    private static void lines() throws IOException {
        String code = Files.readString(SOURCE);
        Matcher block = Pattern.compile("(?s)```java\npublic final class BeansBox \\{\n(.*?)\n\\}\n```").matcher(Files.readString(DOCUMENT));
        DUE.holds("the document has a face", block.find());
        int at = code.indexOf("public final class BeansBox {\n");
        List<String> lines = block.group(1).lines().toList();
        DUE.is("lines of the face", lines.size(), 38);
        for (String line : lines) {
            int next = code.indexOf("\n" + (line.endsWith(");") ? line.replace(";", " {") : line) + "\n");
            DUE.holds("stands in its place: " + line, next >= at && at >= 0);
            at = next;
        }
    }

    /** "Ahead of the calls .. the interface says: ---- .." */
    private static void sections() throws IOException {
        String code = Files.readString(SOURCE);
        Matcher told = Pattern.compile("Ahead of the calls (.*) the interface says: (---- .*)\\.").matcher(Files.readString(DOCUMENT));
        int count = 0;
        int end = 0;
        while (told.find()) {
            String[] names = told.group(1).replace("`", "").split(", ");
            count += names.length;
            int says = code.indexOf("    // " + told.group(2) + "\n");
            int first = code.indexOf("public int " + names[0] + "(");
            DUE.holds(told.group(2) + " is ahead of " + names[0], says > end && first > says
                    && !code.substring(says, first).contains("public int "));
            end = code.indexOf("public int " + names[names.length - 1] + "(");
            DUE.holds(told.group(2) + " is ahead of " + names[names.length - 1], end >= first);
        }
        DUE.is("calls that sections tell", count, 36);
    }

    private static void members() {
        Set<String> names = new TreeSet<>();
        for (Method method : BeansBox.class.getDeclaredMethods()) {
            if (Modifier.isPublic(method.getModifiers())) {
                names.add(method.getName());
            }
        }
        Set<String> constants = new TreeSet<>();
        for (Field field : BeansBox.class.getDeclaredFields()) {
            int how = field.getModifiers();
            if (Modifier.isPublic(how)) {
                constants.add(field.getName());
                DUE.holds(field + " is an int constant", Modifier.isStatic(how) && Modifier.isFinal(how)
                        && field.getType() == int.class);
            } else {
                DUE.holds(field + " is private", Modifier.isPrivate(how));
            }
            DUE.holds(field + ": static is final", !Modifier.isStatic(how) || Modifier.isFinal(how));
        }
        DUE.holds("constants " + constants, constants.equals(Set.of("NONE", "UNKNOWN", "OUTSIDE", "NOT", "FULL")));
        for (Class<?> its : classes()) {
            for (Method method : its.getDeclaredMethods()) {
                boolean open = Modifier.isPublic(method.getModifiers());
                DUE.holds(method + " is public or private", open && its == BeansBox.class
                        || Modifier.isPrivate(method.getModifiers()));
                DUE.holds(method + " bears a public name", open || !names.contains(method.getName()));
                DUE.holds(method + " takes seven at most", method.getParameterCount() <= 7);
            }
        }
    }

    private static void nestedClasses() {
        DUE.holds("twelve classes at most", classes().size() <= 12);
        for (Class<?> its : classes()) {
            int fields = 0;
            for (Field field : its.getDeclaredFields()) {
                fields += Modifier.isStatic(field.getModifiers()) ? 0 : 1;
                DUE.holds(field + ": static is final", !Modifier.isStatic(field.getModifiers())
                        || Modifier.isFinal(field.getModifiers()));
            }
            DUE.holds(its + ": twenty fields at most", fields <= 20);
            if (its != BeansBox.class) {
                DUE.holds(its + " is static", Modifier.isStatic(its.getModifiers()));
                DUE.holds(its + " is not public", !Modifier.isPublic(its.getModifiers())
                        && !Modifier.isProtected(its.getModifiers()));
            }
        }
    }

    private static List<Class<?>> classes() {
        List<Class<?>> all = new ArrayList<>(List.of(BeansBox.class.getDeclaredClasses()));
        all.add(BeansBox.class);
        return all;
    }

    private static void source() throws IOException {
        String whole = Files.readString(SOURCE);
        DUE.holds("signs are 1 to 127", whole.chars().allMatch(sign -> sign > 0 && sign < 128));
        String code = whole.replaceAll("(?s)/\\*.*?\\*/", " ").replaceAll("//[^\n]*", " ");
        for (String word : List.of("throw", "throws", "try", "catch", "finally", "synchronized", "assert", "package",
                "import", "float", "double", "volatile", "transient", "native", "Object", "equals", "hashCode",
                "toString", "System", "Random", "Thread", "class\\.", "var", "yield")) {
            DUE.holds("no " + word, !Pattern.compile("\\b" + word + "\\b").matcher(code).find());
        }
        for (String sign : List.of("->", "::", "@", "\"", "while (true)", "for (;;)", "Exact(")) {
            DUE.holds("no " + sign, !code.contains(sign));
        }
        Matcher library = Pattern.compile("\\b(Math|Integer|Long)\\.(\\w+)").matcher(code);
        while (library.find()) {
            DUE.holds("the library has " + library.group(), Set.of("abs", "min", "max", "bitCount").contains(library.group(2)));
        }
    }
}
