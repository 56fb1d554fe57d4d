/** Promises 7 same and 8 compare. */
public final class SameCompareTest {
    public static void main(String[] args) {
        checkSame();
        checkSameInside();
        checkCompare();
        checkRefusals();
        Bench.end();
    }

    private static void same(String one, String other, boolean due) {
        Counted twin = Bench.of(one, other).twin;
        Bench.due(one + " same " + other, twin.same(0, 0, 1, 0), due);
        Bench.due(other + " same " + one, twin.same(1, 0, 0, 0), due);
        Bench.due(one + " same itself", twin.same(0, 0, 0, 0), true);
    }

    private static void checkSame() {
        String[] unlike = {"null", "true", "false", "0", "1", "-1", "10", "1e-1", "\"\"", "\"0\"", "\"a\"", "\"ab\"", "\"null\"",
            "[]", "[null]", "[1]", "[1,2]", "[2,1]", "[[1]]", "[[],[1]]", "[[1],[]]", "{}", "{\"a\":1}", "{\"b\":1}",
            "{\"a\":2}", "{\"a\":1,\"b\":2}", "{\"a\":2,\"b\":1}", "{\"a\":1,\"c\":2}", "{\"\":[{}]}", "{\"\":{\"a\":[]}}"};
        for (int i = 0; i < unlike.length; i++) {
            for (int k = i; k < unlike.length; k++) {
                same(unlike[i], unlike[k], i == k);
            }
        }
        same("-0.0", "0e7", true);
        same("1", "1.0", true);
        same("1000", "1e3", true);
        same("12.5", "125E-1", true);
        same("12.5", "125", false);
        same("\"\\u0041\\/\\u00e9\"", Bench.utf8("\"A/\u00E9\""), true);
        same("\"\\ud83d\\ude00\"", Bench.utf8("\"\uD83D\uDE00\""), true);
        same("{\"a\":1,\"b\":[2,{\"c\":3,\"d\":4}]}", "{ \"b\" : [ 2.0 , { \"d\" : 4 , \"c\" : 3 } ] , \"a\" : 1 }", true);
        same("{\"a\":1,\"b\":2,\"c\":3}", "{\"c\":3,\"a\":1,\"b\":2}", true);
        same("{\"a\":1,\"b\":2,\"c\":3}", "{\"c\":3,\"a\":2,\"b\":1}", false);
        same("{\"a\":null}", "{\"b\":null}", false);
        same("[".repeat(40) + "1" + "]".repeat(40), "[ ".repeat(40) + "1.0" + "]".repeat(40), true);
        same("[".repeat(40) + "1" + "]".repeat(40), "[".repeat(40) + "2" + "]".repeat(40), false);
        same("{\"a\":".repeat(40) + "1" + "}".repeat(40), "{\"a\":".repeat(40) + "2" + "}".repeat(40), false);
    }

    private static void checkSameInside() {
        Counted twin = Bench.of("{\"a\":\"a\",\"b\":[1,[1]]}", "[\"a\",1.0,[1]]").twin;
        Bench.due("NAME and STRING", twin.same(0, 1, 0, 2), true);
        Bench.due("NAME and STRING of the other", twin.same(0, 1, 1, 1), true);
        Bench.due("NUMBERS", twin.same(0, 5, 1, 2), true);
        Bench.due("ARRAYS", twin.same(0, 6, 1, 3), true);
        Bench.due("ARRAY and its holder", twin.same(0, 6, 0, 4), false);
        Bench.due("NAMES", twin.same(0, 1, 0, 3), false);
    }

    private static void checkCompare() {
        String[] rising = {"-1e999", "-1e3", "-999.5", "-999.49", "-10", "-9", "-1.01", "-1", "-0.1", "-1e-999", "0", "1e-999",
            "1e-3", "0.5", "0.51", "1", "1.0001", "9", "9.9", "10", "11", "99", "100", "1e3", "123456789012345678901234567890", "1e999", "10e999"};
        for (int i = 0; i < rising.length; i++) {
            for (int k = 0; k < rising.length; k++) {
                Counted twin = Bench.of(rising[i], rising[k]).twin;
                Bench.due(rising[i] + " compare " + rising[k], twin.compare(0, 0, 1, 0), Integer.compare(i, k));
            }
        }
        Counted twin = Bench.of("[-0,0.0e9,5,50e-1,0.05E2]").twin;
        Bench.due("zeros", twin.compare(0, 1, 0, 2), 0);
        Bench.due("fives", twin.compare(0, 3, 0, 4), 0);
        Bench.due("fives", twin.compare(0, 5, 0, 3), 0);
        Bench.due("less", twin.compare(0, 1, 0, 3), -1);
        Bench.due("more", twin.compare(0, 3, 0, 2), 1);
    }

    private static void checkRefusals() {
        Counted twin = Bench.of("[1,\"1\"]").twin;
        int[] noTexts = {-1, 2, Integer.MIN_VALUE, Integer.MAX_VALUE};
        for (int t : noTexts) {
            Bench.due("same of " + t, () -> twin.same(t, 0, 0, 0), Bench.ARGUMENT);
            Bench.due("same with " + t, () -> twin.same(0, 9, t, 0), Bench.ARGUMENT);
            Bench.due("compare of " + t, () -> twin.compare(t, 1, 0, 1), Bench.ARGUMENT);
            Bench.due("compare with " + t, () -> twin.compare(0, 9, t, 1), Bench.ARGUMENT);
        }
        int[] noValues = {-1, 3, Integer.MIN_VALUE, Integer.MAX_VALUE};
        for (int v : noValues) {
            Bench.due("same of VALUE " + v, () -> twin.same(0, v, 0, 0), Bench.INDEX);
            Bench.due("same with VALUE " + v, () -> twin.same(0, 0, 0, v), Bench.INDEX);
            Bench.due("compare of VALUE " + v, () -> twin.compare(0, v, 0, 2), Bench.INDEX);
            Bench.due("compare with VALUE " + v, () -> twin.compare(0, 2, 0, v), Bench.INDEX);
        }
        Bench.due("same with no TEXT", () -> twin.same(0, 0, 1, 0), Bench.INDEX);
        Bench.due("compare with no TEXT", () -> twin.compare(0, 1, 1, 0), Bench.INDEX);
        Bench.due("compare NUMBER, STRING", () -> twin.compare(0, 1, 0, 2), Bench.UNSUPPORTED);
        Bench.due("compare STRING, NUMBER", () -> twin.compare(0, 2, 0, 1), Bench.UNSUPPORTED);
        Bench.due("compare ARRAYS", () -> twin.compare(0, 0, 0, 0), Bench.UNSUPPORTED);
        Bench.due("compare NUMBERS", () -> twin.compare(0, 1, 0, 1), "0");
    }
}
