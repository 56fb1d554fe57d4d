/** The boundary cases of the second term, of same (promise 7) and of compare (promise 8); a method for each sentence. */
public final class SameBoundsTest {
    // VALUES 0 to 3, and 0 to 4.
    private static final Run BOTH = Run.NEW.read(0, "[1,\"1\",null]").read(1, "{\"a\":1.0,\"b\":[]}").write(1, 1).feed("[5]");
    private static final Run FIRST_ALONE = Run.NEW.read(0, "[1,2]").feed("[5]");
    private static final int[] NO_TEXTS = {-1, 2, 3, 256, Integer.MIN_VALUE, Integer.MAX_VALUE};

    public static void main(String[] args) {
        checkNumbers();
        checkStrings();
        checkArrays();
        checkObjects();
        checkWords();
        checkKinds();
        checkLargest();
        checkSameOfOneText();
        checkSameRefuses();
        checkCompare();
        checkCompareAtEdges();
        checkCompareRefuses();
        checkWhichException();
        checkNothingChanges();
        Bench.end();
    }

    private static void same(String one, String other, boolean due) {
        Run run = Run.NEW.read(0, one).read(1, other);
        run.takes(one + " same " + other, twin -> twin.same(0, 0, 1, 0), due);
        run.takes(other + " same " + one, twin -> twin.same(1, 0, 0, 0), due);
        run.takes(one + " same itself", twin -> twin.same(0, 0, 0, 0), true);
        Bench.due(one + " and " + other + " WRITTEN the same", run.write(0, 0).written().equals(run.write(1, 0).written()), due);
    }

    /** "THE SAME are NUMBERS of the same size" */
    private static void checkNumbers() {
        String sixty = "1234567891".repeat(6);
        same("0", "-0", true);
        same("-0.0e5", "0E-999", true);
        same("1", "-1", false);
        same("0", "1e-999", false);
        same("1e999", "1e-999", false);
        same("1", "1.0", true);
        same("1", "10e-1", true);
        same("1", "0.1e1", true);
        same("1", "10", false);
        same("1", "0.1", false);
        same("1", "1.01", false);
        same("12", "21", false);
        same("12", "123", false);
        same("1e1", "1e2", false);
        same(sixty, sixty + "e0", true);
        same(sixty, "1." + sixty.substring(1) + "e59", true);
        same(sixty, sixty.substring(0, 59) + "2", false);
        same("10e999", "1" + "0".repeat(59) + "e941", true);
        same("0.1e-999", "0." + "0".repeat(58) + "1e-941", true);
        same("10e999", "1e999", false);
    }

    /** "STRINGS with the same characters" */
    private static void checkStrings() {
        same("\"\"", "\"\"", true);
        same("\"\"", "\"\\u0000\"", false);
        same("\"a\"", "\"\\u0061\"", true);
        same("\"a\"", "\"A\"", false);
        same("\"a\"", "\"aa\"", false);
        same("\"ab\"", "\"ac\"", false);
        same("\"ab\"", "\"bb\"", false);
        same("\"ab\"", "\"ba\"", false);
        same("\"\\/\\b\\t\"", "\"/\\u0008\\u0009\"", true);
        same("\"\\ud83d\\ude00\"", "\"" + Bench.utf8("\uD83D\uDE00") + "\"", true);
        same("\"\\u00e9\"", "\"e\\u0301\"", false);
        same("\"" + "a".repeat(4000) + "\"", "\"" + "a".repeat(4000) + "\"", true);
        same("\"" + "a".repeat(4000) + "\"", "\"" + "a".repeat(3999) + "b\"", false);
        same("\"" + "a".repeat(4000) + "\"", "\"" + "a".repeat(3999) + "\"", false);
    }

    /** "ARRAYS with the same parts in order" */
    private static void checkArrays() {
        same("[]", " [ ] ", true);
        same("[]", "[null]", false);
        same("[]", "[[]]", false);
        same("[1]", "[1,1]", false);
        same("[1,2]", "[ 1.0 , 20e-1 ]", true);
        same("[1,2]", "[2,1]", false);
        same("[1,2,3]", "[1,2,4]", false);
        same("[1,2,3]", "[0,2,3]", false);
        same("[[1],[]]", "[[],[1]]", false);
        same("[[1,2]]", "[[1],2]", false);
        String sixty = Reading.list("1", 59);
        same("[" + sixty + ",1]", "[" + sixty + ",1e0]", true);
        same("[" + sixty + ",1]", "[" + sixty + ",2]", false);
        same("[" + sixty + ",1]", "[" + sixty + "]", false);
    }

    /** "OBJECTS with the same NAMES, in any order, and the same VALUES of these" */
    private static void checkObjects() {
        same("{}", "{ }", true);
        same("{}", "{\"\":null}", false);
        same("{\"a\":1}", "{\"a\":1.0}", true);
        same("{\"a\":1}", "{\"b\":1}", false);
        same("{\"a\":1}", "{\"a\":2}", false);
        same("{\"a\":1}", "{\"a\":1,\"b\":1}", false);
        same("{\"a\":1,\"b\":2}", "{\"b\":2,\"a\":1}", true);
        same("{\"a\":1,\"b\":2}", "{\"b\":1,\"a\":2}", false);
        same("{\"a\":1,\"b\":2}", "{\"a\":1,\"c\":2}", false);
        same("{\"a\":\"b\"}", "{\"b\":\"a\"}", false);
        same("{\"a\":{\"b\":1,\"c\":[{\"d\":2,\"e\":3}]}}", "{\"a\":{\"c\":[{\"e\":3,\"d\":2}],\"b\":1}}", true);
        same("{\"a\":{\"b\":1,\"c\":[{\"d\":2,\"e\":3}]}}", "{\"a\":{\"c\":[{\"e\":2,\"d\":3}],\"b\":1}}", false);
        StringBuilder rising = new StringBuilder();
        StringBuilder falling = new StringBuilder();
        for (int i = 10; i < 69; i++) {
            rising.append("\"").append(i).append("\":").append(i).append(",");
            falling.insert(0, ",\"" + i + "\":" + i);
        }
        same("{" + rising + "\"z\":0}", "{\"z\":0" + falling + "}", true);
        same("{" + rising + "\"z\":0}", "{\"z\":1" + falling + "}", false);
        same("{" + rising + "\"z\":0}", "{\"y\":0" + falling + "}", false);
        same("{" + rising + "\"z\":0}", "{\"5\":0" + falling + "}", false);
    }

    /** "null, true, false" */
    private static void checkWords() {
        String[] words = {"null", "true", "false"};
        for (String one : words) {
            for (String other : words) {
                same(one, other, one.equals(other));
            }
        }
    }

    /** Those of two kinds are not THE SAME, however near they are. */
    private static void checkKinds() {
        String[] values = {"null", "false", "true", "0", "\"\"", "[]", "{}", "\"null\"", "\"0\"", "1", "\"1\"", "[0]", "{\"0\":0}"};
        for (int i = 0; i < values.length; i++) {
            for (int k = 0; k < values.length; k++) {
                same(values[i], values[k], i == k);
            }
        }
    }

    /** The deepest and the fullest ones are looked at to their last part. */
    private static void checkLargest() {
        same("[".repeat(40) + "]".repeat(40), " [".repeat(40) + "]".repeat(40), true);
        same("[".repeat(40) + "]".repeat(40), "[".repeat(39) + "]".repeat(39), false);
        same("[".repeat(40) + "0" + "]".repeat(40), "[".repeat(40) + "1" + "]".repeat(40), false);
        same("{\"a\":".repeat(40) + "0" + "}".repeat(40), "{\"a\":".repeat(40) + "-0" + "}".repeat(40), true);
        same("{\"a\":".repeat(40) + "0" + "}".repeat(40), "{\"a\":".repeat(40) + "1" + "}".repeat(40), false);
        String inner = "[" + Reading.list("1", 60) + "]";
        String most = "[" + Reading.list(inner, 16) + "," + Reading.list("1", 22);
        same(most + ",1]", most + ",1]", true);
        same(most + ",1]", most + ",2]", false);
    }

    /** "Whether VALUE v of TEXT t and VALUE w of TEXT u are THE SAME": t and u may be one, and v a NAME. */
    private static void checkSameOfOneText() {
        Run run = Run.NEW.read(0, "{\"a\":\"a\",\"b\":[1,1.0,{\"a\":1}],\"c\":{\"a\":10e-1}}");
        run.takes("NAME and STRING", twin -> twin.same(0, 1, 0, 2), true);
        run.takes("NAMES of two OBJECTS", twin -> twin.same(0, 1, 0, 8), true);
        run.takes("NAMES", twin -> twin.same(0, 1, 0, 3), false);
        run.takes("NUMBERS", twin -> twin.same(0, 5, 0, 6), true);
        run.takes("OBJECTS", twin -> twin.same(0, 7, 0, 11), true);
        run.takes("an OBJECT and what it is in", twin -> twin.same(0, 7, 0, 0), false);
    }

    /** "IllegalArgumentException: t, u. IndexOutOfBoundsException: there is none." */
    private static void checkSameRefuses() {
        for (int t : NO_TEXTS) {
            BOTH.refuses("same of TEXT " + t, twin -> twin.same(t, 0, 1, 0), Bench.ARGUMENT);
            BOTH.refuses("same with TEXT " + t, twin -> twin.same(0, 0, t, 0), Bench.ARGUMENT);
        }
        for (int v : new int[] {-1, 4, 5, 1000, Integer.MIN_VALUE, Integer.MAX_VALUE}) {
            BOTH.refuses("same of VALUE " + v, twin -> twin.same(0, v, 1, 0), Bench.INDEX);
            BOTH.refuses("same with VALUE " + v, twin -> twin.same(1, 0, 0, v), Bench.INDEX);
        }
        BOTH.takes("same of the first VALUES", twin -> twin.same(0, 0, 1, 0), false);
        BOTH.takes("same of the last VALUES", twin -> twin.same(0, 3, 1, 4), false);
        BOTH.takes("same of NUMBERS", twin -> twin.same(0, 1, 1, 2), true);
        BOTH.refuses("same with the VALUE behind the last of TEXT 1", twin -> twin.same(0, 0, 1, 5), Bench.INDEX);
        FIRST_ALONE.refuses("same with no TEXT 1", twin -> twin.same(0, 0, 1, 0), Bench.INDEX);
        FIRST_ALONE.refuses("same of no TEXT 1", twin -> twin.same(1, 0, 0, 0), Bench.INDEX);
        FIRST_ALONE.takes("same of TEXT 0 alone", twin -> twin.same(0, 0, 0, 0), true);
    }

    /** "Two NUMBERS: -1, 0, 1 as the first one is less, the same, more." */
    private static void checkCompare() {
        String[][] rising = {{"-10e999", "-1" + "0".repeat(59) + "e941"}, {"-1e999"}, {"-101"}, {"-100", "-1e2"}, {"-99"}, {"-12"},
            {"-11"}, {"-1.1"}, {"-1", "-1.0", "-10e-1"}, {"-0.9"}, {"-1e-999"}, {"-0.1e-999"}, {"0", "-0", "0.0", "-0e9"},
            {"0.1e-999"}, {"1e-999"}, {"0.09"}, {"0.1", "1e-1"}, {"0.11"}, {"0.9"}, {"1", "1.0", "10e-1"}, {"1.1"}, {"2"}, {"9"},
            {"10"}, {"11"}, {"12"}, {"99"}, {"100", "1e2"}, {"101"}, {"1e999"}, {"10e999", "1" + "0".repeat(59) + "e941"}};
        for (int i = 0; i < rising.length; i++) {
            for (int k = 0; k < rising.length; k++) {
                for (String one : rising[i]) {
                    for (String other : rising[k]) {
                        compare(one, other, Integer.compare(i, k));
                    }
                }
            }
        }
    }

    private static void compare(String one, String other, int due) {
        Run run = Run.NEW.read(0, one).read(1, other);
        run.takes(one + " compare " + other, twin -> twin.compare(0, 0, 1, 0), due);
    }

    /** The same sentence, for NUMBERS that differ as little as they can */
    private static void checkCompareAtEdges() {
        String nines = "9".repeat(60);
        String almost = "9".repeat(59) + "8";
        compare(almost, nines, -1);
        compare(nines, almost, 1);
        compare("-" + almost, "-" + nines, 1);
        compare(nines, nines, 0);
        compare(nines, "1e60", -1);
        compare("1e60", nines, 1);
        compare("0." + "9".repeat(59), "1", -1);
        compare("1." + "0".repeat(58) + "1", "1", 1);
        compare("-1." + "0".repeat(58) + "1", "-1", -1);
        compare(nines + "e999", nines + "e998", 1);
        compare(nines + "e-999", nines + "e-998", -1);
        compare("1e-999", "-1e999", 1);
    }

    /** "Likewise; UnsupportedOperationException: one is no NUMBER." */
    private static void checkCompareRefuses() {
        for (int t : NO_TEXTS) {
            BOTH.refuses("compare of TEXT " + t, twin -> twin.compare(t, 1, 1, 2), Bench.ARGUMENT);
            BOTH.refuses("compare with TEXT " + t, twin -> twin.compare(0, 1, t, 2), Bench.ARGUMENT);
        }
        for (int v : new int[] {-1, 4, 5, 1000, Integer.MIN_VALUE, Integer.MAX_VALUE}) {
            BOTH.refuses("compare of VALUE " + v, twin -> twin.compare(0, v, 1, 2), Bench.INDEX);
            BOTH.refuses("compare with VALUE " + v, twin -> twin.compare(1, 2, 0, v), Bench.INDEX);
        }
        FIRST_ALONE.refuses("compare with no TEXT 1", twin -> twin.compare(0, 1, 1, 0), Bench.INDEX);
        FIRST_ALONE.refuses("compare of no TEXT 1", twin -> twin.compare(1, 0, 0, 1), Bench.INDEX);
        Run kinds = Run.NEW.read(0, "[null,false,true,3,\"4\",[5],{\"n\":6}]").feed("[5]");
        int[] numbers = {4, 7, 10};
        for (int v = 0; v < 11; v++) {
            int value = v;
            if (v == numbers[0] || v == numbers[1] || v == numbers[2]) {
                kinds.takes("compare of NUMBER " + v, twin -> twin.compare(0, value, 0, value), 0);
            } else {
                kinds.refuses("compare of VALUE " + v, twin -> twin.compare(0, value, 0, 4), Bench.UNSUPPORTED);
                kinds.refuses("compare with VALUE " + v, twin -> twin.compare(0, 4, 0, value), Bench.UNSUPPORTED);
                kinds.refuses("compare of VALUE " + v + " with itself", twin -> twin.compare(0, value, 0, value), Bench.UNSUPPORTED);
            }
        }
    }

    /** "Of several exceptions the one is thrown that the heading of the call names first" */
    private static void checkWhichException() {
        BOTH.refuses("same: no VALUE, u", twin -> twin.same(0, 9, 2, 0), Bench.ARGUMENT);
        BOTH.refuses("same: t, no VALUE", twin -> twin.same(-1, 0, 0, 9), Bench.ARGUMENT);
        BOTH.refuses("same: all", twin -> twin.same(-1, -1, 2, -1), Bench.ARGUMENT);
        BOTH.refuses("compare: no VALUE, u", twin -> twin.compare(0, 9, 2, 0), Bench.ARGUMENT);
        BOTH.refuses("compare: t, no VALUE", twin -> twin.compare(-1, 0, 0, 9), Bench.ARGUMENT);
        BOTH.refuses("compare: no NUMBER, u", twin -> twin.compare(0, 2, 2, 0), Bench.ARGUMENT);
        BOTH.refuses("compare: t, no NUMBER", twin -> twin.compare(2, 0, 0, 2), Bench.ARGUMENT);
        BOTH.refuses("compare: no NUMBER, no VALUE", twin -> twin.compare(0, 2, 1, 5), Bench.INDEX);
        BOTH.refuses("compare: no VALUE, no NUMBER", twin -> twin.compare(0, 4, 1, 0), Bench.INDEX);
        FIRST_ALONE.refuses("compare: no NUMBER, no TEXT", twin -> twin.compare(0, 0, 1, 0), Bench.INDEX);
        FIRST_ALONE.refuses("same: no TEXT, u", twin -> twin.same(1, 0, 2, 0), Bench.ARGUMENT);
    }

    /** Both only answer: all stays behind them. */
    private static void checkNothingChanges() {
        Bench.due("state behind same", BOTH.then(twin -> twin.same(0, 0, 1, 0)).state(), BOTH.state());
        Bench.due("state behind compare", BOTH.then(twin -> twin.compare(0, 1, 1, 2)).state(), BOTH.state());
    }
}
