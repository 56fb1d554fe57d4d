import java.io.DataInputStream;
import java.io.IOException;
import java.lang.reflect.Field;
import java.lang.reflect.Method;
import java.lang.reflect.Modifier;
import java.nio.file.Files;
import java.nio.file.Path;
import java.util.ArrayList;
import java.util.List;
import java.util.Set;
import java.util.TreeSet;
import java.util.regex.Matcher;
import java.util.regex.Pattern;

/** What can be seen from outside of the rules in ../shared/LANGUAGE.md; a method for each. It runs where .ci/run runs it. */
public final class RulesTest {
    private static final Path PROGRAM = Path.of("src/main/java/JsonTwin.java");
    private static final int TEXT_CONSTANT = 8;

    public static void main(String[] args) throws IOException {
        checkNames();
        checkClassesInside();
        checkStaticFields();
        checkLibrary();
        checkRecursion();
        checkSizes();
        checkTexts();
        Bench.end();
    }

    private static List<Class<?>> classes() {
        List<Class<?>> classes = new ArrayList<>(List.of(JsonTwin.class));
        classes.addAll(List.of(JsonTwin.class.getDeclaredClasses()));
        return classes;
    }

    /** Rule 1: "No private method bears the name of a public one." */
    private static void checkNames() {
        Set<String> face = new TreeSet<>();
        for (Method method : JsonTwin.class.getDeclaredMethods()) {
            if (Modifier.isPublic(method.getModifiers())) {
                face.add(method.getName());
            }
        }
        for (Class<?> type : classes()) {
            for (Method method : type.getDeclaredMethods()) {
                boolean ofFace = Modifier.isPublic(method.getModifiers());
                Bench.due(method + " bears a name of the face", face.contains(method.getName()), ofFace);
            }
        }
    }

    /** Rule 1: "the classes inside it, which are private or package-visible and static" */
    private static void checkClassesInside() {
        for (Class<?> type : JsonTwin.class.getDeclaredClasses()) {
            int modifiers = type.getModifiers();
            Bench.due(type + " is static", Modifier.isStatic(modifiers), true);
            Bench.due(type + " is seen outside", Modifier.isPublic(modifiers) || Modifier.isProtected(modifiers), false);
        }
    }

    /** Rule 5: "Static fields are final" */
    private static void checkStaticFields() {
        for (Class<?> type : classes()) {
            for (Field field : type.getDeclaredFields()) {
                if (Modifier.isStatic(field.getModifiers())) {
                    Bench.due(field + " is final", Modifier.isFinal(field.getModifiers()), true);
                }
            }
        }
    }

    /** Rule 4: "The library: only what stands here", and what rules 2 and 6 leave out */
    private static void checkLibrary() throws IOException {
        for (String line : Files.readAllLines(PROGRAM)) {
            boolean outside = line.matches("\\s*(import|package) .*") || line.contains("->") || line.contains("::");
            boolean leftOut = line.matches(".*\\b(finally|synchronized|assert|try|catch)\\b.*") && !line.contains("//") && !line.contains("*");
            Bench.due("line outside the rules: " + line, outside || leftOut, false);
        }
    }

    /** Rule 8: "private methods that call one another ... the depth is carried as an argument" */
    private static void checkRecursion() throws IOException {
        Matcher carries = Pattern.compile("\\n *(.*\\bint depth\\)) \\{").matcher(Files.readString(PROGRAM));
        int seen = 0;
        while (carries.find()) {
            seen++;
            Bench.due("private: " + carries.group(1), carries.group(1).startsWith("private "), true);
        }
        Bench.due("methods that carry a depth are seen", seen > 0, true);
    }

    /** Rule 11: "at most seven parameters", "some twelve classes", "some twenty fields beside its constants" */
    private static void checkSizes() {
        Bench.due("twelve classes at most", classes().size() <= 12, true);
        for (Class<?> type : classes()) {
            for (Method method : type.getDeclaredMethods()) {
                Bench.due("parameters of " + method, method.getParameterCount() <= 7, true);
            }
            int fields = 0;
            for (Field field : type.getDeclaredFields()) {
                fields += Modifier.isStatic(field.getModifiers()) ? 0 : 1;
            }
            Bench.due("fields of " + type, fields <= 20, true);
        }
    }

    /** Rule 12: "What a run makes is counted ... (... a text and its characters): keep it small": the program has none. */
    private static void checkTexts() throws IOException {
        for (Class<?> type : classes()) {
            Bench.due("texts in " + type, textConstantsOf(type), 0);
        }
    }

    private static int textConstantsOf(Class<?> type) throws IOException {
        String file = type.getName() + ".class";
        int texts = 0;
        try (DataInputStream in = new DataInputStream(RulesTest.class.getResourceAsStream(file))) {
            in.skipNBytes(8);
            int constants = in.readUnsignedShort();
            for (int i = 1; i < constants; i++) {
                int tag = in.readUnsignedByte();
                texts += tag == TEXT_CONSTANT ? 1 : 0;
                in.skipNBytes(tag == 1 ? in.readUnsignedShort() : sizeOfConstant(tag));
                // A long or a double takes two places.
                i += tag == 5 || tag == 6 ? 1 : 0;
            }
        }
        return texts;
    }

    private static int sizeOfConstant(int tag) {
        switch (tag) {
            case 5:
            case 6:
                return 8;
            case 7:
            case TEXT_CONSTANT:
            case 16:
            case 19:
            case 20:
                return 2;
            case 15:
                return 3;
            default:
                return 4;
        }
    }
}
