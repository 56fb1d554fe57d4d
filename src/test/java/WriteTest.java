/** Promises 10 write and 11 octets. */
public final class WriteTest {
    public static void main(String[] args) {
        checkWritten();
        checkOrder();
        checkLargest();
        checkOctets();
        checkRefusals();
        Bench.end();
    }

    private static void written(String text, String due) {
        Run run = Run.NEW.read(0, "0").read(1, text).write(1, 0);
        Bench.due("WRITTEN " + text, run.written(), due);
        Bench.due("count of " + text, run.number(twin -> twin.count(3)), due.length());
    }

    /** What is WRITTEN can be read again, but for an EXPONENT of four digits. */
    private static void writtenAlike(String text, String due) {
        written(text, due);
        Bench again = Bench.of(text, due);
        Bench.due(text + " and what is WRITTEN are THE SAME", again.twin.same(0, 0, 1, 0), true);
    }

    private static void checkWritten() {
        writtenAlike(" null ", "null");
        writtenAlike("true", "true");
        writtenAlike("false", "false");
        writtenAlike("-0.00e-5", "0");
        writtenAlike("5", "5");
        writtenAlike("-5", "-5");
        writtenAlike("-12.340", "-1234e-2");
        writtenAlike("1000", "1e3");
        writtenAlike("1e10", "1e10");
        writtenAlike("1e+100", "1e100");
        writtenAlike("105e-200", "105e-200");
        written("10e999", "1e1000");
        written("1" + "0".repeat(59) + "e999", "1e1058");
        written("-0." + "0".repeat(58) + "1e-999", "-1e-1058");
        writtenAlike("1.5e1", "15");
        writtenAlike("\"\"", "\"\"");
        writtenAlike("\"a\\\"b\\\\c\\/d\"", "\"a\\\"b\\\\c/d\"");
        writtenAlike("\"\\b\\f\\n\\r\\t\\u0000\\u001F\\u0020\\u007f\"", "\"\\u0008\\u000c\\u000a\\u000d\\u0009\\u0000\\u001f \177\"");
        writtenAlike("\"\\u0010\\u0019\\u001a\\u000F\"", "\"\\u0010\\u0019\\u001a\\u000f\"");
        String wide = Bench.utf8("\u0080\u07FF\u0800\uD7FF\uE000\uFFFF\uD800\uDC00\uDBFF\uDFFF");
        writtenAlike("\"" + wide + "\"", "\"" + wide + "\"");
        writtenAlike("\"\\u0080\\u07ff\\u0800\\uD7FF\\uE000\\uffff\\ud800\\udc00\\udbff\\udfff\"", "\"" + wide + "\"");
        writtenAlike(" [ ] ", "[]");
        writtenAlike("[ 1 , [ \"a\" , null ] , { } ]", "[1,[\"a\",null],{}]");
        writtenAlike("[".repeat(40) + "0" + "]".repeat(40), "[".repeat(40) + "0" + "]".repeat(40));
        writtenAlike("{\"a\" :".repeat(40) + "0" + "}".repeat(40), "{\"a\":".repeat(40) + "0" + "}".repeat(40));
    }

    private static void checkOrder() {
        writtenAlike("{ \"b\" : 1 , \"a\" : { \"d\" : 2 , \"c\" : [ ] } }", "{\"a\":{\"c\":[],\"d\":2},\"b\":1}");
        writtenAlike("{\"ab\":1,\"b\":2,\"a\":3,\"\":4,\"B\":5,\"aa\":6}", "{\"\":4,\"B\":5,\"a\":3,\"aa\":6,\"ab\":1,\"b\":2}");
        // By characters, not by UTF-16: 10000 comes behind FFFF.
        writtenAlike(Bench.utf8("{\"\uD800\uDC00\":1,\"\uFFFF\":2,\"\u00E9\":3,\"z\":4,\"\\u0001\":5}"),
                Bench.utf8("{\"\\u0001\":5,\"z\":4,\"\u00E9\":3,\"\uFFFF\":2,\"\uD800\uDC00\":1}"));
        StringBuilder falling = new StringBuilder();
        StringBuilder rising = new StringBuilder();
        for (int i = 10; i < 70; i++) {
            String member = "\"" + i + "\":" + (i % 10 == 0 ? i / 10 + "e1" : i);
            rising.append(i == 10 ? "" : ",").append(member);
            falling.insert(0, i == 10 ? member : member + ",");
        }
        writtenAlike("{" + falling + "}", "{" + rising + "}");
        writtenAlike("{" + rising + "}", "{" + rising + "}");
    }

    private static void checkLargest() {
        written("\"" + "\\n".repeat(4000) + "\"", "\"" + "\\u000a".repeat(4000) + "\"");
        StringBuilder text = new StringBuilder("[\"" + "\\n".repeat(4000) + "\"");
        StringBuilder due = new StringBuilder("[\"" + "\\u000a".repeat(4000) + "\"");
        for (int i = 0; i < 47; i++) {
            text.append(",1.1");
            due.append(",11e-1");
        }
        written(text + "]", due + "]");
    }

    private static void checkOctets() {
        Bench bench = Bench.of("\"abcdefgh\\ud83d\\ude00\"", "[1,\"23456\"]");
        Counted twin = bench.twin;
        Bench.due("size", twin.write(0, 0), 14);
        Bench.due("octets 0", twin.octets(0), 0x2261626364656667L);
        Bench.due("octets 1", twin.octets(1), 0x68F09F9880220000L);
        Bench.due("octets 2", () -> twin.octets(2), Bench.INDEX);
        Bench.due("octets -1", () -> twin.octets(-1), Bench.INDEX);
        Bench.due("octets most", () -> twin.octets(Integer.MAX_VALUE), Bench.INDEX);
        Bench.due("octets least", () -> twin.octets(Integer.MIN_VALUE), Bench.INDEX);
        Bench.due("octets that wrap round", () -> twin.octets(1 << 29), Bench.INDEX);
        bench.read(0, "x");
        Bench.due("they stay when the TEXT is gone", twin.octets(0), 0x2261626364656667L);
        Bench.due("refused", () -> twin.write(0, 0), Bench.INDEX);
        Bench.due("they stay when none is WRITTEN", twin.octets(1), 0x68F09F9880220000L);
        Bench.due("shorter", twin.write(1, 1), 1);
        Bench.due("octets of the next", twin.octets(0), 0x3100000000000000L);
        Bench.due("the ones before are gone", () -> twin.octets(1), Bench.INDEX);
        Bench.due("part", bench.write(1, 2), "\"23456\"");
        Bench eight = Bench.of("\"123456\"");
        Bench.due("eight", eight.twin.write(0, 0), 8);
        Bench.due("octets 0", eight.twin.octets(0), 0x2231323334353622L);
        Bench.due("behind eight", () -> eight.twin.octets(1), Bench.INDEX);
    }

    private static void checkRefusals() {
        Bench bench = Bench.of("{\"a\":[1]}");
        Counted twin = bench.twin;
        Bench.due("NAME", bench.write(0, 1), "\"a\"");
        int[] noTexts = {-1, 2, Integer.MIN_VALUE, Integer.MAX_VALUE};
        for (int t : noTexts) {
            Bench.due("write of TEXT " + t, () -> twin.write(t, 0), Bench.ARGUMENT);
            Bench.due("write of TEXT " + t, () -> twin.write(t, 9), Bench.ARGUMENT);
        }
        int[] noValues = {-1, 4, Integer.MIN_VALUE, Integer.MAX_VALUE};
        for (int v : noValues) {
            Bench.due("write of VALUE " + v, () -> twin.write(0, v), Bench.INDEX);
        }
        Bench.due("write of no TEXT", () -> twin.write(1, 0), Bench.INDEX);
        Bench.due("what was WRITTEN stays", twin.count(3), 3);
    }
}
