import java.util.Collections;

/** Promise 4 wrong, and the first of the document's terms: what is a TEXT, and where it is WRONG. */
public final class WrongTest {
    public static void main(String[] args) {
        checkTokens();
        checkNumbers();
        checkNumberLimits();
        checkEscapes();
        checkUtf8();
        checkArraysAndObjects();
        checkParts();
        checkDepth();
        checkValues();
        checkCharacters();
        Bench.end();
    }

    private static void good(String text, int values) {
        Bench bench = new Bench();
        Bench.due("read of " + text, bench.read(0, text), values);
        Bench.due("wrong of " + text, bench.twin.wrong(), -1);
    }

    private static void bad(String text, int where) {
        Bench bench = Bench.of("[1]");
        Bench.due("read of " + text, bench.read(0, text), -1);
        Bench.due("wrong of " + text, bench.twin.wrong(), where);
        Bench.due("count of " + text, bench.twin.count(0), 0);
    }

    private static String list(String part, int times) {
        return String.join(",", Collections.nCopies(times, part));
    }

    private static String members(int times) {
        StringBuilder text = new StringBuilder();
        for (int i = 0; i < times; i++) {
            text.append(i == 0 ? "" : ",").append("\"").append(i).append("\":").append(i);
        }
        return text.toString();
    }

    private static void checkTokens() {
        good("null", 1);
        good(" \t\n\rtrue \t\n\r", 1);
        good("false", 1);
        bad("", 0);
        bad("   ", 3);
        bad("nul", 3);
        bad("nulL", 3);
        bad("Null", 0);
        bad("tru ", 3);
        bad("truex", 4);
        bad("falsey", 5);
        bad("fa\0se", 2);
        bad("null null", 5);
        bad("\13null", 0);
        bad("null\f", 4);
        bad("\u00EF\u00BB\u00BFnull", 0);
        bad("'a'", 0);
        bad("]", 0);
        bad(",", 0);
        bad("null,", 4);
    }

    private static void checkNumbers() {
        for (String text : new String[] {"0", "-0", "10", "-1", "0.0", "1.50", "1e5", "1E+05", "0e-0", "-12.340e-056", "9e999"}) {
            good(text, 1);
        }
        bad("-", 1);
        bad("+1", 0);
        bad(".5", 0);
        bad("-x", 1);
        bad("-.5", 1);
        bad("00", 1);
        bad("-01", 2);
        bad("1.", 2);
        bad("1.e5", 2);
        bad("1..2", 2);
        bad("1.2.3", 3);
        bad("1e", 2);
        bad("1e+", 3);
        bad("1e-x", 3);
        bad("1e+-1", 3);
        bad("1e5.0", 3);
        bad("1e5e5", 3);
        bad("0x10", 1);
        bad("1 .5", 2);
        bad("- 1", 1);
        bad("[1.]", 3);
        bad("[-]", 2);
    }

    private static void checkNumberLimits() {
        String sixty = "1234567890".repeat(6);
        good(sixty, 1);
        good("-" + sixty + "e-999", 1);
        good("1." + "0".repeat(59), 1);
        bad(sixty + "1", 0);
        bad(" " + sixty + "1", 1);
        bad("[-" + sixty + "1]", 1);
        bad("1." + "0".repeat(60), 0);
        bad(sixty + ".1", 0);
        bad(sixty + ".", 61);
        bad(sixty + ".x", 61);
        bad(sixty + "1.x", 0);
        bad(sixty + "1x", 0);
        bad("0.".concat("0".repeat(60)), 0);
        bad("0".repeat(61), 1);
        good("[1e999,1e-999,1e+999]", 4);
        bad("[1,1e1000]", 3);
        bad("[1,1e0000]", 3);
        bad("[1,-1e-0001]", 3);
        bad("1E1234x", 0);
    }

    private static void checkEscapes() {
        good("\"\\\"\\\\\\/\\b\\f\\n\\r\\t\\u0000\\uAbCd\\ue000\\ud7ff\"", 1);
        good("\"\\ud800\\udc00\\uDBFF\\uDFFF\"", 1);
        bad("\"", 1);
        bad("\"a", 2);
        bad("\"a\n\"", 2);
        bad("\"\37\"", 1);
        bad("\"\0\"", 1);
        bad("\"\\", 2);
        bad("\"\\x\"", 2);
        bad("\"\\'\"", 2);
        bad("\"\\U0041\"", 2);
        bad("\"a\\u\"", 4);
        bad("\"\\u12", 5);
        bad("\"\\u12g4\"", 5);
        bad("\"\\u123\"", 6);
        bad("\"\\u123@\"", 6);
        bad("\"\\u/000\"", 3);
        bad("\"\\u:000\"", 3);
        bad("\"\\uG000\"", 3);
        bad("\"\\u`000\"", 3);
        bad("\"a\\ud800\"", 2);
        bad("\"a\\ud800", 2);
        bad("\"a\\ud800x\"", 2);
        bad("\"a\\ud800\\n\"", 2);
        bad("\"a\\ud800\\xdc00\"", 2);
        bad("\"a\\ud800xudc00\"", 2);
        bad("\"a\\udc00\\udc00\"", 2);
        bad("\"a\\ud800\\x\"", 2);
        bad("\"a\\ud800\\u\"", 2);
        bad("\"a\\ud800\\udc0\"", 2);
        bad("\"a\\ud800\\udc0", 2);
        bad("\"a\\ud800\\u0041\"", 2);
        bad("\"a\\ud800\\udbff\"", 2);
        bad("\"a\\ud800\\ue000\"", 2);
        bad("\"a\\ud83d\\ud83d\\ude00\"", 2);
        bad("\"a\\udc00\"", 2);
        bad("\"a\\udfff\\udc00\"", 2);
        bad("\"a\\ud80x\"", 7);
    }

    private static void checkUtf8() {
        good("\"" + Bench.utf8("\177\u0080\u07FF\u0800\uD7FF\uE000\uFFFF\uD800\uDC00\uDBFF\uDFFF") + "\"", 1);
        for (String octets : new String[] {
                "\u0080", "\u00BF", "\u00C0\u0080", "\u00C1\u00BF", "\u00C2", "\u00C2A", "\u00C2\u00C0", "\u00DF\177",
                "\u00E0\u009F\u00BF", "\u00E1\u0080", "\u00E1\u0080A", "\u00E1A\u0080", "\u00ED\u00A0\u0080", "\u00ED\u00BF\u00BF",
                "\u00F0\u008F\u00BF\u00BF", "\u00F0\u0090\u0080", "\u00F0\u0090\u0080A", "\u00F4\u0090\u0080\u0080",
                "\u00F5\u0080\u0080\u0080", "\u00F8\u0088\u0080\u0080\u0080", "\u00FE", "\u00FF"}) {
            bad("\"a" + octets + "\"", 2);
            bad("\"a" + octets, 2);
            bad("{\"" + octets + "\":1}", 2);
        }
        bad("\u00C3\u00A9", 0);
    }

    private static void checkArraysAndObjects() {
        good("[]", 1);
        good(" [ ] ", 1);
        good("{}", 1);
        good("{ }", 1);
        good("[ 1 , [ ] , { \"a\" : 2 , \"b\" : [ null ] } ]", 9);
        bad("[", 1);
        bad("[1", 2);
        bad("[1 ", 3);
        bad("[1,", 3);
        bad("[1,]", 3);
        bad("[,1]", 1);
        bad("[1,,2]", 3);
        bad("[1 2]", 3);
        bad("[1}", 2);
        bad("[1:2]", 2);
        bad("[1]]", 3);
        bad("[] []", 3);
        bad("{", 1);
        bad("{]", 1);
        bad("{1:2}", 1);
        bad("{a:1}", 1);
        bad("{,}", 1);
        bad("{\"a\"", 4);
        bad("{\"a\"}", 4);
        bad("{\"a\",", 4);
        bad("{\"a\" 1}", 5);
        bad("{\"a\":", 5);
        bad("{\"a\":}", 5);
        bad("{\"a\":1", 6);
        bad("{\"a\":1]", 6);
        bad("{\"a\":1 \"b\":2}", 7);
        bad("{\"a\":1,", 7);
        bad("{\"a\":1,}", 7);
        bad("{\"a\":1,2}", 7);
        bad("{\"a\":1}}", 7);
        bad("{\"a\":1, \"a\":2}", 8);
        bad("{\"a\":1,\"\\u0061\":2}", 7);
        bad("{\"a\":1,\"a\"x", 7);
        bad("{\"a\":1,\"a", 9);
        bad("{\"\":1,\"b\":2,\"\":3}", 12);
        bad("{\"c\":1,\"b\":2,\"a\":3,\"b\":4}", 19);
        bad("[{\"a\":{\"a\":1,\"b\":2,\"a\":3}}]", 19);
        good("{\"a\":1,\"A\":2,\"aa\":3,\"\":4,\"b\":{\"a\":5}}", 13);
    }

    private static void checkParts() {
        good("[" + list("1", 60) + "]", 61);
        bad("[" + list("1", 61) + "]", 121);
        bad("[" + list("1", 60) + ", 1]", 122);
        bad("[" + list("1", 60) + ",]", 121);
        bad("[" + list("1", 60) + ",", 121);
        String sixty = "{" + members(60);
        good(sixty + "}", 121);
        bad(sixty + ",\"x\":1}", sixty.length() + 1);
        bad(sixty + ", \"0\":1}", sixty.length() + 2);
        bad(sixty + ",}", sixty.length() + 1);
        good("[" + list("[" + list("1", 15) + "]", 60) + "]", 961);
    }

    private static void checkDepth() {
        good("[".repeat(40) + "]".repeat(40), 40);
        good("[".repeat(40) + "1" + "]".repeat(40), 41);
        bad("[".repeat(41) + "]".repeat(41), 40);
        bad("[".repeat(40) + " {}" + "]".repeat(40), 41);
        good("{\"a\":".repeat(40) + "1" + "}".repeat(40), 81);
        bad("{\"a\":".repeat(40) + "{}" + "}".repeat(40), 200);
        good("[" + list("[]", 50) + "]", 51);
    }

    private static void checkValues() {
        String inner = "[" + list("1", 60) + "]";
        // 1 + 16 * 61 = 977, and 23 more make 1,000.
        String most = "[" + list(inner, 16) + "," + list("1", 23);
        good(most + "]", 1000);
        bad(most + ",1]", most.length() + 1);
        bad(most + ", \"a\"]", most.length() + 2);
        String named = "[" + list(inner, 16) + "," + list("1", 21);
        good(named + ",{}]", 999);
        bad(named + ",{\"a\":1}]", named.length() + 6);
        bad(named + ",0,{\"a\":1}]", named.length() + 4);
        bad(named + ",0,{\"a", named.length() + 4);
        good(named + ",0,{}]", 1000);
    }

    private static void checkCharacters() {
        String text = "\"" + "a".repeat(4000);
        good(text + "\"", 1);
        bad(text + "a\"", 4001);
        bad(text, 4001);
        bad(text + "\\n\"", 4001);
        bad(text + "\\x\"", 4001);
        good("\"" + Bench.utf8("\u00E9").repeat(4000) + "\"", 1);
        bad("\"" + Bench.utf8("\u00E9").repeat(4001) + "\"", 8001);
        good("[\"" + "a".repeat(2000) + "\",{\"" + "b".repeat(1999) + "\":\"c\"}]", 5);
        bad("[\"" + "a".repeat(2000) + "\",{\"" + "b".repeat(1999) + "\":\"cd\"}]", 4009);
        good("[" + text + "\",\"\"]", 3);
        bad("[" + text + "\",\"b\"]", 4005);
        good("\"\\ud83d\\ude00" + "a".repeat(3999) + "\"", 1);
        // What was read before does not count.
        Bench twice = Bench.of(text + "\"");
        Bench.due("read again", twice.read(0, "\"b\""), 1);
    }
}
