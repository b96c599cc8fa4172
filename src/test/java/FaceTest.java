import java.io.IOException;
import java.lang.reflect.Constructor;
import java.lang.reflect.Field;
import java.lang.reflect.Method;
import java.lang.reflect.Modifier;
import java.util.Set;
import java.util.TreeSet;
import java.util.regex.Matcher;
import java.util.regex.Pattern;

/** The public face as the document has it, and those rules of the language that can be seen from outside. */
public final class FaceTest {
    private static final Set<String> METHODS = Set.of(
        "int cow(int,int,int,int)", "int taken(int,int,int)", "int withhold(int,int)", "int trouble(int,int,int)",
        "int about(int,int)", "int pass(int)", "int come(int,int)", "int power(boolean)", "int box()",
        "int queue(int)", "int ends()", "int room(int)", "int pick(int)", "int total(int)",
        "int visit(int,int,int)", "int visitOf(int,int)", "int gave(int,int)", "int longest()", "int rank(int)",
        "int until(int,int)");
    private static final Set<String> CONSTANTS = Set.of("UNKNOWN", "BAD", "STATE", "FULL", "NONE", "CAST");
    private static final int MOST_CLASSES = 12, MOST_FIELDS = 20, MOST_PARAMETERS = 7;
    private static final Pattern FORBIDDEN = Pattern.compile(
        "\\b(throw|throws|try|catch|synchronized|assert|import|package|equals|hashCode|toString|protected)\\b|->|::");

    private static final Check CHECK = new Check("face");

    public static void main(String[] args) throws IOException {
        type();
        methods();
        fields();
        classesInside();
        sizes();
        words();
        Check.close();
    }

    private static void type() {
        CHECK.holds("the class is not public and final", Modifier.isPublic(MilkBox.class.getModifiers())
            && Modifier.isFinal(MilkBox.class.getModifiers()));
        Constructor<?>[] all = MilkBox.class.getDeclaredConstructors();
        CHECK.holds("there is not one public constructor without parameters", all.length == 1
            && Modifier.isPublic(all[0].getModifiers()) && all[0].getParameterCount() == 0);
    }

    private static void methods() {
        Set<String> open = new TreeSet<>();
        Set<String> openNames = new TreeSet<>();
        for (Method m : MilkBox.class.getDeclaredMethods()) {
            if (!Modifier.isPrivate(m.getModifiers())) {
                CHECK.holds(m + " is not public, or static",
                    Modifier.isPublic(m.getModifiers()) && !Modifier.isStatic(m.getModifiers()));
                open.add(spelled(m));
                openNames.add(m.getName());
            }
        }
        CHECK.holds("the methods are " + open, open.equals(METHODS));
        for (Method m : MilkBox.class.getDeclaredMethods()) {
            if (Modifier.isPrivate(m.getModifiers())) {
                CHECK.holds(m + " bears the name of a public one", !openNames.contains(m.getName()));
            }
        }
    }

    private static String spelled(Method m) {
        StringBuilder text = new StringBuilder(m.getReturnType().getName()).append(' ').append(m.getName()).append('(');
        for (int i = 0; i < m.getParameterCount(); i++) {
            text.append(i == 0 ? "" : ",").append(m.getParameterTypes()[i].getName());
        }
        return text.append(')').toString();
    }

    private static void fields() {
        Set<String> open = new TreeSet<>();
        for (Field f : MilkBox.class.getDeclaredFields()) {
            int is = f.getModifiers();
            if (Modifier.isStatic(is)) {
                CHECK.holds(f + " is static and not final", Modifier.isFinal(is));
            }
            if (!Modifier.isPrivate(is)) {
                CHECK.holds(f + " is not a public constant of int", Modifier.isPublic(is) && Modifier.isStatic(is)
                    && f.getType() == int.class);
                open.add(f.getName());
            }
        }
        CHECK.holds("the constants are " + open, open.equals(CONSTANTS));
    }

    private static void classesInside() {
        for (Class<?> inside : MilkBox.class.getDeclaredClasses()) {
            int is = inside.getModifiers();
            CHECK.holds(inside + " is not static", Modifier.isStatic(is));
            CHECK.holds(inside + " is public or protected", !Modifier.isPublic(is) && !Modifier.isProtected(is));
            for (Field f : inside.getDeclaredFields()) {
                CHECK.holds(f + " is static and not final",
                    !Modifier.isStatic(f.getModifiers()) || Modifier.isFinal(f.getModifiers()));
            }
        }
    }

    private static void sizes() {
        Class<?>[] inside = MilkBox.class.getDeclaredClasses();
        CHECK.holds("there are " + inside.length + " classes inside", inside.length < MOST_CLASSES);
        sizeOf(MilkBox.class);
        for (Class<?> one : inside) {
            sizeOf(one);
        }
    }

    private static void sizeOf(Class<?> one) {
        int fields = 0;
        for (Field f : one.getDeclaredFields()) {
            fields += Modifier.isStatic(f.getModifiers()) ? 0 : 1;
        }
        CHECK.holds(one + " has " + fields + " fields", fields <= MOST_FIELDS);
        for (Method m : one.getDeclaredMethods()) {
            CHECK.holds(m + " takes too many parameters", m.getParameterCount() <= MOST_PARAMETERS);
        }
        for (Constructor<?> made : one.getDeclaredConstructors()) {
            CHECK.holds(made + " takes too many parameters", made.getParameterCount() <= MOST_PARAMETERS);
        }
    }

    private static void words() throws IOException {
        String text = Project.text("src/main/java/MilkBox.java")
            .replaceAll("(?s)/\\*.*?\\*/", "").replaceAll("//[^\n]*", "");
        Matcher found = FORBIDDEN.matcher(text);
        CHECK.holds("the source has a word that LANGUAGE.md leaves out", !found.find());
    }
}
