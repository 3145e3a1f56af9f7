import java.io.IOException;
import java.lang.reflect.Field;
import java.lang.reflect.Method;
import java.nio.file.Files;
import java.nio.file.Path;
import java.util.ArrayList;
import java.util.List;
import java.util.Set;
import java.util.TreeSet;
import java.util.regex.Matcher;
import java.util.regex.Pattern;

/** What README.md shows: each call of its Java answers what stands behind it, its tables name every call and every constant. */
public final class ReadmeTest {
    private static final Due DUE = new Due("ReadmeTest");
    private static final Pattern CALL = Pattern.compile("box\\.(\\w+)\\((.*)\\);\\s+// (-?\\w+)(:.*)?");
    private static final Pattern TEXT = Pattern.compile("(?:String )?text = \"(.*)\";");
    private static final List<String> FEEDING = List.of("for (int i = 0; i < text.length(); i++) {",
        "    box.feed(text.charAt(i));", "}");

    private BeansBox box = null;
    private String text = "";
    private int calls = 0;
    private int shown = 0;

    public static void main(String[] args) throws IOException, ReflectiveOperationException {
        String readme = Files.readString(Path.of("README.md"));
        ReadmeTest test = new ReadmeTest();
        Matcher blocks = Pattern.compile("(?s)```java\n(.*?)```").matcher(readme);
        while (blocks.find()) {
            test.read(blocks.group(1).lines().toList());
        }
        DUE.holds("answers are shown", test.shown > 40);
        DUE.holds("a box is good for 512 calls, there were " + test.calls, test.calls <= 512);
        callsOfTheTable(readme);
        constantsOfTheTable(readme);
        testsOfTheList(readme);
        DUE.end();
    }

    // ---- Java

    private void read(List<String> lines) throws ReflectiveOperationException {
        for (int i = 0; i < lines.size(); i++) {
            String line = lines.get(i);
            Matcher text = TEXT.matcher(line);
            Matcher call = CALL.matcher(line);
            if (line.equals("BeansBox box = new BeansBox();")) {
                box = new BeansBox();
            } else if (text.matches()) {
                this.text = text.group(1);
            } else if (line.equals(FEEDING.get(0))) {
                DUE.holds("the letters are fed", lines.subList(i, i + FEEDING.size()).equals(FEEDING));
                Due.feed(box, this.text);
                calls += this.text.length();
                i += FEEDING.size() - 1;
            } else if (call.matches()) {
                DUE.is(line, answer(call.group(1), call.group(2)), number(call.group(3)));
                shown++;
            } else {
                DUE.holds("can be read: " + line, line.isBlank());
            }
        }
    }

    private int answer(String name, String numbers) throws ReflectiveOperationException {
        List<Object> args = new ArrayList<>();
        for (String each : numbers.isEmpty() ? new String[0] : numbers.split(", ")) {
            args.add(number(each.replace("BeansBox.", "")));
        }
        for (Method method : Due.calls()) {
            if (method.getName().equals(name) && method.getParameterCount() == args.size()) {
                calls++;
                return (Integer) method.invoke(box, args.toArray());
            }
        }
        throw new NoSuchMethodException(name + args);
    }

    private static int number(String word) throws ReflectiveOperationException {
        return word.matches("-?\\d+") ? Integer.parseInt(word) : BeansBox.class.getField(word).getInt(null);
    }

    // ---- tables

    private static void callsOfTheTable(String readme) throws IOException {
        Set<String> told = new TreeSet<>();
        Matcher rows = Pattern.compile("(?m)^\\| `(\\w+\\([\\w, ]*\\))` \\|").matcher(readme);
        while (rows.find()) {
            DUE.holds(rows.group(1) + " stands once", told.add(rows.group(1)));
        }
        Set<String> want = new TreeSet<>();
        Matcher calls = Pattern.compile("(?m)^ +public int (\\w+)\\((.*)\\) \\{").matcher(
                Files.readString(Path.of("src/main/java/BeansBox.java")));
        while (calls.find()) {
            want.add(calls.group(1) + "(" + calls.group(2).replace("int ", "") + ")");
        }
        DUE.is("calls of the class", want.size(), 36);
        DUE.holds("the calls are " + want + ", told are " + told, want.equals(told));
    }

    private static void constantsOfTheTable(String readme) throws IllegalAccessException {
        for (Field field : BeansBox.class.getFields()) {
            DUE.holds(field.getName() + " with its value", readme.contains("| `" + field.getName() + "` | " + field.getInt(null) + " |"));
        }
    }

    /** Every test is told, and what is told is there. */
    private static void testsOfTheList(String readme) throws IOException {
        Set<String> told = new TreeSet<>();
        Matcher names = Pattern.compile("`(\\w+Test)`").matcher(readme.substring(readme.indexOf("## Tests")));
        while (names.find()) {
            told.add(names.group(1));
        }
        Set<String> there = new TreeSet<>();
        try (var files = Files.list(Path.of("src/test/java"))) {
            files.map(file -> file.getFileName().toString()).filter(file -> file.endsWith("Test.java"))
                    .forEach(file -> there.add(file.replace(".java", "")));
        }
        DUE.holds("the tests are " + there + ", told are " + told, there.equals(told));
    }
}
