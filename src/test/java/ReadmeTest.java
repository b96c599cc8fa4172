import java.io.IOException;
import java.lang.reflect.Field;
import java.lang.reflect.Method;
import java.lang.reflect.Modifier;
import java.nio.file.Files;
import java.nio.file.Path;
import java.util.ArrayList;
import java.util.List;
import java.util.Set;
import java.util.TreeSet;
import java.util.regex.Matcher;
import java.util.regex.Pattern;
import java.util.stream.Stream;

/** What README.md shows of the class is what the class answers, and the way that it names runs every test. */
public final class ReadmeTest {
    private static final String NEW_OBJECT = "MilkBox x = new MilkBox();";
    private static final Pattern CALL = Pattern.compile("x\\.(\\w+)\\(([^)]*)\\);\\s*// ([A-Z]+|-?\\d+)(?:: .*)?");
    private static final Pattern CALL_ROW = Pattern.compile("(?m)^\\| `(\\w+)\\(([^)]*)\\)` \\|");
    private static final Pattern CONSTANT_ROW = Pattern.compile("(?m)^\\| `MilkBox\\.(\\w+)` \\| (-?\\d+) \\|");
    private static final Pattern TEST_ROW = Pattern.compile("(?m)^\\| `(\\w+Test)` \\|");

    private static final Check CHECK = new Check("README.md");

    public static void main(String[] args) throws IOException, ReflectiveOperationException {
        String text = Project.text("README.md");
        answers(text);
        callRows(text);
        constantRows(text);
        wayToRunTheTests(text);
        testRows(text);
        Check.close();
    }

    // ---- what it shows of the class

    private static void answers(String text) throws ReflectiveOperationException {
        Set<String> shown = new TreeSet<>();
        for (String block : blocks(text, "java")) {
            runBlock(block, shown);
        }
        CHECK.holds("the calls shown are " + shown, shown.equals(namesOfTheFace()));
    }

    private static List<String> blocks(String text, String language) {
        List<String> found = new ArrayList<>();
        Matcher block = Pattern.compile("(?ms)^```" + language + "\n(.*?)^```$").matcher(text);
        while (block.find()) {
            found.add(block.group(1));
        }
        return found;
    }

    private static void runBlock(String block, Set<String> shown) throws ReflectiveOperationException {
        MilkBox x = null;
        for (String line : block.split("\n")) {
            Matcher call = CALL.matcher(line);
            if (line.equals(NEW_OBJECT)) {
                x = new MilkBox();
            } else if (x != null && call.matches()) {
                shown.add(call.group(1));
                CHECK.due(line, answerOf(x, call.group(1), call.group(2)), dueOf(call.group(3)));
            } else {
                CHECK.holds("no call with its answer: " + line, line.isEmpty() || line.startsWith("// "));
            }
        }
    }

    private static int answerOf(MilkBox x, String name, String given) throws ReflectiveOperationException {
        Method method = methodOf(name);
        List<String> words = parts(given);
        Object[] values = new Object[words.size()];
        for (int i = 0; i < values.length; i++) {
            boolean yesOrNo = method.getParameterTypes()[i] == boolean.class;
            values[i] = yesOrNo ? (Object) Boolean.valueOf(words.get(i)) : (Object) Integer.valueOf(words.get(i));
        }
        return (Integer) method.invoke(x, values);
    }

    private static int dueOf(String word) throws ReflectiveOperationException {
        return Character.isLetter(word.charAt(0)) ? MilkBox.class.getField(word).getInt(null) : Integer.parseInt(word);
    }

    private static List<String> parts(String given) {
        return given.isEmpty() ? List.of() : List.of(given.split(", "));
    }

    private static Method methodOf(String name) throws NoSuchMethodException {
        for (Method m : MilkBox.class.getDeclaredMethods()) {
            if (m.getName().equals(name) && Modifier.isPublic(m.getModifiers())) {
                return m;
            }
        }
        throw new NoSuchMethodException(name);
    }

    private static Set<String> namesOfTheFace() {
        Set<String> names = new TreeSet<>();
        for (Method m : MilkBox.class.getDeclaredMethods()) {
            if (Modifier.isPublic(m.getModifiers())) {
                names.add(m.getName());
            }
        }
        return names;
    }

    private static void callRows(String text) throws NoSuchMethodException {
        Set<String> told = new TreeSet<>();
        Matcher row = CALL_ROW.matcher(text);
        while (row.find()) {
            told.add(row.group(1));
            CHECK.due("parameters of " + row.group(), parts(row.group(2)).size(), methodOf(row.group(1)).getParameterCount());
        }
        CHECK.holds("the calls told are " + told, told.equals(namesOfTheFace()));
    }

    private static void constantRows(String text) throws ReflectiveOperationException {
        Set<String> told = new TreeSet<>();
        Matcher row = CONSTANT_ROW.matcher(text);
        while (row.find()) {
            told.add(row.group(1));
            CHECK.due(row.group(1), dueOf(row.group(1)), Integer.parseInt(row.group(2)));
        }
        Set<String> all = new TreeSet<>();
        for (Field f : MilkBox.class.getFields()) {
            all.add(f.getName());
        }
        CHECK.holds("the constants told are " + told, told.equals(all));
    }

    // ---- the way to run the tests

    private static void wayToRunTheTests(String text) {
        CHECK.holds("the way to run the tests is not .ci/run alone", blocks(text, "sh").equals(List.of(".ci/run\n")));
        CHECK.holds("there is no .ci/run", Files.isRegularFile(Project.file(".ci/run")));
    }

    // .ci/run takes what is named *Test.java: a test of another name would never be run.
    private static void testRows(String text) throws IOException {
        Set<String> told = new TreeSet<>();
        Matcher row = TEST_ROW.matcher(text);
        while (row.find()) {
            told.add(row.group(1));
        }
        Set<String> tests = new TreeSet<>();
        try (Stream<Path> files = Files.walk(Project.file("src/test"))) {
            for (Path file : files.filter(f -> f.toString().endsWith(".java")).toList()) {
                if (Files.readString(file).contains("public static void main(")) {
                    tests.add(file.getFileName().toString().replace(".java", ""));
                }
            }
        }
        CHECK.holds("the tests told are " + told + ", there are " + tests, told.equals(tests));
    }
}
