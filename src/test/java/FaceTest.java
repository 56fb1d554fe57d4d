import java.lang.reflect.Constructor;
import java.lang.reflect.Field;
import java.lang.reflect.Member;
import java.lang.reflect.Method;
import java.lang.reflect.Modifier;
import java.util.Arrays;
import java.util.TreeSet;

/** The public face, and promise 1: a new object. */
public final class FaceTest {
    public static void main(String[] args) {
        checkFace();
        checkNewObject();
        Bench.end();
    }

    private static void checkFace() {
        Bench.due("modifiers", JsonTwin.class.getModifiers(), Modifier.PUBLIC | Modifier.FINAL);
        TreeSet<String> seen = new TreeSet<>();
        for (Field field : JsonTwin.class.getDeclaredFields()) {
            note(seen, field, field.getName());
        }
        for (Method method : JsonTwin.class.getDeclaredMethods()) {
            String parameters = Arrays.toString(method.getParameterTypes());
            String exceptions = Arrays.toString(method.getExceptionTypes()).replaceAll("class java.lang.", "");
            note(seen, method, method.getReturnType() + " " + method.getName() + parameters + exceptions);
        }
        for (Constructor<?> constructor : JsonTwin.class.getDeclaredConstructors()) {
            note(seen, constructor, "new" + Arrays.toString(constructor.getParameterTypes()));
        }
        String index = "IndexOutOfBoundsException";
        String argument = "IllegalArgumentException";
        TreeSet<String> due = new TreeSet<>(Arrays.asList(
                "NULL", "FALSE", "TRUE", "NUMBER", "STRING", "ARRAY", "OBJECT", "new[]",
                "int feed[int, int, int, int, int][" + index + "]",
                "int read[int, int][" + index + ", " + argument + "]",
                "int wrong[][]",
                "int value[int, int, int][" + argument + ", " + index + "]",
                "int letter[int, int, int][" + argument + ", " + index + "]",
                "boolean same[int, int, int, int][" + argument + ", " + index + "]",
                "int compare[int, int, int, int][" + argument + ", " + index + ", UnsupportedOperationException]",
                "int pointer[int, int][" + index + ", " + argument + "]",
                "int write[int, int][" + argument + ", " + index + "]",
                "long octets[int][" + index + "]",
                "int count[int][" + argument + "]"));
        Bench.due("members that are not private", seen, due);
    }

    private static void note(TreeSet<String> seen, Member member, String name) {
        if (!Modifier.isPrivate(member.getModifiers()) && !member.isSynthetic()) {
            Bench.due("public: " + name, Modifier.isPublic(member.getModifiers()), true);
            seen.add(name);
        }
    }

    private static void checkNewObject() {
        Counted twin = new Counted();
        for (int what = 0; what < 4; what++) {
            Bench.due("count " + what, twin.count(what), 0);
        }
        Bench.due("wrong", twin.wrong(), -1);
        for (int t = 0; t < 2; t++) {
            int text = t;
            Bench.due("value", () -> twin.value(text, 0, 0), Bench.INDEX);
            Bench.due("letter", () -> twin.letter(text, 0, 0), Bench.INDEX);
            Bench.due("same", () -> twin.same(text, 0, text, 0), Bench.INDEX);
            Bench.due("compare", () -> twin.compare(text, 0, text, 0), Bench.INDEX);
            Bench.due("pointer", () -> twin.pointer(text, 0), Bench.ARGUMENT);
            Bench.due("write", () -> twin.write(text, 0), Bench.INDEX);
            Bench.due("read", () -> twin.read(text, 1), Bench.INDEX);
        }
        Bench.due("octets", () -> twin.octets(0), Bench.INDEX);
    }
}
