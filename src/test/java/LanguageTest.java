import java.lang.reflect.Constructor;
import java.lang.reflect.Field;
import java.lang.reflect.Method;
import java.lang.reflect.Modifier;
import java.nio.file.Files;
import java.nio.file.Path;
import java.util.ArrayList;
import java.util.Arrays;
import java.util.List;
import java.util.TreeSet;
import java.util.regex.Matcher;
import java.util.regex.Pattern;

/** The document's face, and rules of LANGUAGE.md seen from outside: the classes inside, words that are ruled out. */
public final class LanguageTest {
    private static final Due due = new Due("language");
    private static final String[] FACE = {
        "int length(int)", "int source(int, int, int)", "int put(int, int, boolean)", "int bit(int, int)",
        "int ones(int)", "int gate(int, int, int, int, int)", "int not(int, int)", "int later(int, int, int)",
        "int flip(int, long, int)", "int both(int, int, int)", "int together(int, int)",
        "int miss(int, int, int, int)", "int where(int)", "int machine(int, int, int)", "int state()",
        "long ever(int, int, int)", "int degree(int, int)", "int term(int, int)", "long part(int, int, int)",
        "int least()", "int at(int)", "int make(int, int, int, int)", "int count(int)", "long digest()"
    };
    private static final String[] CONSTANTS = {"NONE", "UNKNOWN", "OUTSIDE", "STATE"};
    private static final String[] RULED_OUT = {
        "throw", "throws", "try", "catch", "synchronized", "assert", "import", "package", "native", "volatile",
        "Thread", "System", "Object", "Exception", "var"
    };

    public static void main(String[] args) throws Exception {
        methods();
        fields();
        constants();
        constructors();
        classesInside();
        words();
        due.end();
    }

    static String asWritten(Method method) {
        List<String> types = new ArrayList<>();
        for (Class<?> type : method.getParameterTypes()) {
            types.add(type.getSimpleName());
        }
        return method.getReturnType().getSimpleName() + " " + method.getName() + "(" + String.join(", ", types) + ")";
    }

    private static void methods() {
        TreeSet<String> open = new TreeSet<>();
        TreeSet<String> names = new TreeSet<>();
        for (Method method : BitStreams.class.getDeclaredMethods()) {
            if (!Modifier.isPrivate(method.getModifiers())) {
                due.holds("that " + method + " is public alone", method.getModifiers() == Modifier.PUBLIC);
                open.add(asWritten(method));
                names.add(method.getName());
            }
        }
        due.holds("that the face is the document's: " + open, open.equals(new TreeSet<>(Arrays.asList(FACE))));
        List<Class<?>> all = new ArrayList<>(Arrays.asList(BitStreams.class.getDeclaredClasses()));
        all.add(BitStreams.class);
        for (Class<?> type : all) {
            for (Method method : type.getDeclaredMethods()) {
                boolean hidden = Modifier.isPrivate(method.getModifiers());
                due.holds("that no private method is named " + method.getName(),
                        !hidden || !names.contains(method.getName()));
                due.holds("that " + method + " takes at most seven", method.getParameterCount() <= 7);
            }
        }
    }

    private static void fields() {
        TreeSet<String> open = new TreeSet<>();
        for (Field field : BitStreams.class.getDeclaredFields()) {
            int how = field.getModifiers();
            if (!Modifier.isPrivate(how)) {
                open.add(field.getName());
                due.holds("that " + field + " is a public constant",
                        how == (Modifier.PUBLIC | Modifier.STATIC | Modifier.FINAL) && field.getType() == int.class);
            }
            due.holds("that static " + field + " is final", !Modifier.isStatic(how) || Modifier.isFinal(how));
        }
        due.holds("that the constants are the document's: " + open,
                open.equals(new TreeSet<>(Arrays.asList(CONSTANTS))));
    }

    private static void constants() {
        due.is("NONE", BitStreams.NONE, -1);
        due.is("UNKNOWN", BitStreams.UNKNOWN, -101);
        due.is("OUTSIDE", BitStreams.OUTSIDE, -102);
        due.is("STATE", BitStreams.STATE, -103);
    }

    private static void constructors() {
        Constructor<?>[] all = BitStreams.class.getDeclaredConstructors();
        due.is("constructors", all.length, 1);
        due.holds("that it is public", Modifier.isPublic(all[0].getModifiers()));
        due.is("its parameters", all[0].getParameterCount(), 0);
        due.holds("that the class is public and final",
                BitStreams.class.getModifiers() == (Modifier.PUBLIC | Modifier.FINAL));
    }

    private static void classesInside() {
        for (Class<?> type : BitStreams.class.getDeclaredClasses()) {
            int how = type.getModifiers();
            due.holds("that " + type + " is static", Modifier.isStatic(how));
            due.holds("that " + type + " is not open", !Modifier.isPublic(how) && !Modifier.isProtected(how));
            due.holds("that " + type + " has at most twenty fields", fieldsBesideConstants(type) <= 20);
        }
        due.holds("that there are at most twelve", BitStreams.class.getDeclaredClasses().length < 12);
        due.holds("that there are at most twenty fields", fieldsBesideConstants(BitStreams.class) <= 20);
    }

    private static int fieldsBesideConstants(Class<?> type) {
        int count = 0;
        for (Field field : type.getDeclaredFields()) {
            count += Modifier.isStatic(field.getModifiers()) ? 0 : 1;
        }
        return count;
    }

    private static void words() throws Exception {
        String text = Files.readString(Path.of("src/main/java/BitStreams.java"));
        String code = text.replaceAll("(?s)/\\*.*?\\*/", " ").replaceAll("//[^\n]*", " ");
        for (String word : RULED_OUT) {
            Matcher found = Pattern.compile("\\b" + word + "\\b").matcher(code);
            due.holds("that '" + word + "' is not used", !found.find());
        }
        due.holds("that there is no lambda", !code.contains("->"));
        due.holds("that there is no method reference", !code.contains("::"));
        due.holds("that the text is plain", text.chars().allMatch(c -> c < 128));
    }
}
