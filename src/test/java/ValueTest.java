import java.util.Arrays;

/** Promises 5 value and 6 letter. */
public final class ValueTest {
    public static void main(String[] args) {
        checkFacts();
        checkNumbers();
        checkLetters();
        checkRefusals();
        Bench.end();
    }

    private static String facts(Counted twin, int t, int v) {
        int[] facts = new int[8];
        for (int what = 0; what < 8; what++) {
            facts[what] = twin.value(t, v, what);
        }
        return Arrays.toString(facts);
    }

    private static void checkFacts() {
        String text = " {\"b\": [null, true,\"xy\\n\"] ,\"a\":{\"\":-0.50},\"c\":[],\"d\":{},\"e\":false} ";
        Counted twin = Bench.of("0", text).twin;
        // kind, where it begins, in which, how many, EXPONENT, sign, first, next
        String[] due = {
            "[6, 1, -1, 5, 0, 0, 1, -1]",
            "[4, 2, 0, 1, 0, 0, 2, 6]",
            "[5, 7, 0, 3, 0, 0, 3, -1]",
            "[0, 8, 2, 0, 0, 0, -1, 4]",
            "[2, 14, 2, 0, 0, 0, -1, 5]",
            "[4, 19, 2, 3, 0, 0, -1, -1]",
            "[4, 28, 0, 1, 0, 0, 7, 10]",
            "[6, 32, 0, 1, 0, 0, 8, -1]",
            "[4, 33, 7, 0, 0, 0, 9, -1]",
            "[3, 36, 7, 1, -1, 1, -1, -1]",
            "[4, 43, 0, 1, 0, 0, 11, 12]",
            "[5, 47, 0, 0, 0, 0, -1, -1]",
            "[4, 50, 0, 1, 0, 0, 13, 14]",
            "[6, 54, 0, 0, 0, 0, -1, -1]",
            "[4, 57, 0, 1, 0, 0, 15, -1]",
            "[1, 61, 0, 0, 0, 0, -1, -1]",
        };
        Bench.due("count", twin.count(1), due.length);
        for (int v = 0; v < due.length; v++) {
            Bench.due("VALUE " + v, facts(twin, 1, v), due[v]);
        }
        Bench.due("VALUE of TEXT 0", facts(twin, 0, 0), "[3, 0, -1, 0, 0, 0, -1, -1]");
    }

    /** DIGITS, EXPONENT and sign of a NUMBER. */
    private static void number(String text, String digits, int exponent, int sign) {
        Counted twin = Bench.of(text).twin;
        StringBuilder seen = new StringBuilder();
        for (int k = 0; k < twin.value(0, 0, 3); k++) {
            seen.append(twin.letter(0, 0, k));
        }
        Bench.due("DIGITS of " + text, seen.toString(), digits);
        Bench.due("EXPONENT of " + text, twin.value(0, 0, 4), exponent);
        Bench.due("sign of " + text, twin.value(0, 0, 5), sign);
        Bench.due("behind " + text, () -> twin.letter(0, 0, digits.length()), Bench.INDEX);
    }

    private static void checkNumbers() {
        number("0", "", 0, 0);
        number("-0", "", 0, 0);
        number("-0.000e5", "", 0, 0);
        number("0E-999", "", 0, 0);
        number("7", "7", 0, 0);
        number("-7", "7", 0, 1);
        number("100", "1", 2, 0);
        number("1.00", "1", 0, 0);
        number("-0.0120", "12", -3, 1);
        number("10203.040", "1020304", -2, 0);
        number("2.50e3", "25", 2, 0);
        number("2.5E+1", "25", 0, 0);
        number("12e-04", "12", -4, 0);
        number("-120e999", "12", 1000, 1);
        number("1" + "0".repeat(59) + "e999", "1", 1058, 0);
        number("0." + "0".repeat(58) + "1e-999", "1", -1058, 0);
        number("9".repeat(60), "9".repeat(60), 0, 0);
        number("1." + "0".repeat(58) + "1", "1" + "0".repeat(58) + "1", -59, 0);
    }

    private static void checkLetters() {
        String characters = "A" + Bench.utf8("\177\u00E9\u20AC\uD83D\uDE00") + "\\u0000\\u00fF\\uD83D\\uDE01\\\"\\\\\\/\\b\\f\\n\\r\\t";
        Counted twin = Bench.of("{\"" + characters + "\":-50.6}").twin;
        int[] due = {'A', 127, 0xE9, 0x20AC, 0x1F600, 0, 255, 0x1F601, 34, 92, '/', 8, 12, 10, 13, 9};
        Bench.due("characters", twin.value(0, 1, 3), due.length);
        for (int k = 0; k < due.length; k++) {
            Bench.due("letter " + k, twin.letter(0, 1, k), due[k]);
        }
        Bench.due("DIGIT 0", twin.letter(0, 2, 0), 5);
        Bench.due("DIGIT 1", twin.letter(0, 2, 1), 0);
        Bench.due("DIGIT 2", twin.letter(0, 2, 2), 6);
        Bench.due("behind the DIGITS", () -> twin.letter(0, 2, 3), Bench.INDEX);
        Bench.due("behind the characters", () -> twin.letter(0, 1, due.length), Bench.INDEX);
        Bench.due("before the characters", () -> twin.letter(0, 1, -1), Bench.INDEX);
        Bench.due("of an OBJECT", () -> twin.letter(0, 0, 0), Bench.INDEX);
        Counted others = Bench.of("[null,true,false,[1],\"\",0]").twin;
        for (int v = 0; v < others.count(0); v++) {
            int value = v;
            Bench.due("of VALUE " + v, () -> others.letter(0, value, 0), v == 5 ? "1" : Bench.INDEX);
        }
    }

    private static void checkRefusals() {
        Counted twin = Bench.of("[1]").twin;
        int[] noTexts = {-1, 2, Integer.MIN_VALUE, Integer.MAX_VALUE};
        for (int t : noTexts) {
            Bench.due("value of TEXT " + t, () -> twin.value(t, 0, 0), Bench.ARGUMENT);
            Bench.due("value of TEXT " + t, () -> twin.value(t, 9, 9), Bench.ARGUMENT);
            Bench.due("letter of TEXT " + t, () -> twin.letter(t, 1, 0), Bench.ARGUMENT);
            Bench.due("letter of TEXT " + t, () -> twin.letter(t, 9, 9), Bench.ARGUMENT);
        }
        int[] noFacts = {-1, 8, Integer.MIN_VALUE, Integer.MAX_VALUE};
        for (int what : noFacts) {
            Bench.due("value what " + what, () -> twin.value(0, 0, what), Bench.ARGUMENT);
            Bench.due("value what " + what, () -> twin.value(1, 0, what), Bench.ARGUMENT);
        }
        int[] noValues = {-1, 2, 1000, Integer.MIN_VALUE, Integer.MAX_VALUE};
        for (int v : noValues) {
            Bench.due("value " + v, () -> twin.value(0, v, 0), Bench.INDEX);
            Bench.due("letter of " + v, () -> twin.letter(0, v, 0), Bench.INDEX);
        }
        Bench.due("value of no TEXT", () -> twin.value(1, 0, 0), Bench.INDEX);
        Bench.due("letter of no TEXT", () -> twin.letter(1, 0, 0), Bench.INDEX);
        Bench.due("letter most", () -> twin.letter(0, 1, Integer.MAX_VALUE), Bench.INDEX);
        Bench.due("letter least", () -> twin.letter(0, 1, Integer.MIN_VALUE), Bench.INDEX);
    }
}
