/** The boundary cases of the third term, of write (promise 10) and of octets (promise 11); a method for each sentence. */
public final class WrittenBoundsTest {
    public static void main(String[] args) {
        checkWords();
        checkNumbers();
        checkExponents();
        checkEscapedCharacters();
        checkCharactersInUtf8();
        checkArrays();
        checkObjects();
        checkOrderOfNames();
        checkNoBlanks();
        checkParts();
        checkHowMany();
        checkUntilTheNext();
        checkWriteRefuses();
        checkOctets();
        checkOctetsRefuses();
        checkNothingChanges();
        Bench.end();
    }

    private static void written(String text, String due) {
        Run run = Run.NEW.read(0, "[]").read(1, text);
        Run behind = run.takes("write of " + text, twin -> twin.write(1, 0), due.length());
        behind.takes("count behind the write of " + text, twin -> twin.count(3), due.length());
        Bench.due("WRITTEN " + text, behind.written(), due);
    }

    /** "WRITTEN: null, true, false" */
    private static void checkWords() {
        written("null", "null");
        written("true", "true");
        written("false", "false");
    }

    /** "a NUMBER: - if it has the sign, its DIGITS (0 of 0)" */
    private static void checkNumbers() {
        for (String zero : new String[] {"0", "-0", "0.0", "-0.00e5", "0E-999", "0." + "0".repeat(59)}) {
            written(zero, "0");
        }
        written("1", "1");
        written("-1", "-1");
        written("9", "9");
        written("-901", "-901");
        written("9".repeat(60), "9".repeat(60));
        written("-" + "9".repeat(60), "-" + "9".repeat(60));
        written("1" + "0".repeat(58) + "1", "1" + "0".repeat(58) + "1");
    }

    /** "e and the EXPONENT (with - below 0) if that is not 0" */
    private static void checkExponents() {
        written("1e0", "1");
        written("10e-1", "1");
        written("0.1e1", "1");
        written("1.0", "1");
        written("10", "1e1");
        written("0.1", "1e-1");
        written("-10", "-1e1");
        written("-0.1", "-1e-1");
        written("1e9", "1e9");
        written("1E+10", "1e10");
        written("1e-09", "1e-9");
        written("1e-10", "1e-10");
        written("1e99", "1e99");
        written("1e100", "1e100");
        written("1e101", "1e101");
        written("1e-990", "1e-990");
        written("1e999", "1e999");
        written("1e-999", "1e-999");
        written("10e999", "1e1000");
        written("0.1e-999", "1e-1000");
        written("1" + "0".repeat(59) + "e999", "1e1058");
        written("-0." + "0".repeat(58) + "1e-999", "-1e-1058");
        written("1200.3400", "120034e-2");
        written("1" + "0".repeat(59), "1e59");
    }

    /** "a STRING in 34: 92 before 34 and 92, 92 u 0 0 and two hexadecimal digits (a-f) for characters below 32" */
    private static void checkEscapedCharacters() {
        written("\"\"", "\"\"");
        written("\"\\\"\"", "\"\\\"\"");
        written("\"\\\\\"", "\"\\\\\"");
        written("\"\\u0022\\u005C\"", "\"\\\"\\\\\"");
        for (int c = 0; c < 32; c++) {
            written(String.format("\"\\u%04X\"", c), String.format("\"\\u%04x\"", c));
        }
        written("\"\\b\\f\\n\\r\\t\"", "\"\\u0008\\u000c\\u000a\\u000d\\u0009\"");
        written("{\"\\n\\\"\":\"\\\\\"}", "{\"\\u000a\\\"\":\"\\\\\"}");
    }

    /** "others in UTF-8" */
    private static void checkCharactersInUtf8() {
        for (int c = 32; c < 128; c++) {
            if (c != 34 && c != 92) {
                written(String.format("\"\\u%04x\"", c), "\"" + (char) c + "\"");
            }
        }
        for (int c : new int[] {0x80, 0xBF, 0xC0, 0xFF, 0x7FF, 0x800, 0xFFF, 0x1000, 0xD7FF, 0xE000, 0xFEFF, 0xFFFE, 0xFFFF, 0x10000, 0x1F600, 0x10FFFF}) {
            StringBuilder escaped = new StringBuilder();
            for (char unit : Character.toChars(c)) {
                escaped.append(String.format("\\u%04x", (int) unit));
            }
            written("\"a" + escaped + "b\"", "\"a" + Bench.utf8(Character.toString(c)) + "b\"");
        }
        written("\"\\/\"", "\"/\"");
    }

    /** "ARRAYS" */
    private static void checkArrays() {
        written("[]", "[]");
        written("[1]", "[1]");
        written("[2,1,[],[[3]]]", "[2,1,[],[[3]]]");
        written("[" + Reading.list("1", 60) + "]", "[" + Reading.list("1", 60) + "]");
        written("[".repeat(40) + "]".repeat(40), "[".repeat(40) + "]".repeat(40));
        written("[".repeat(40) + "1,2" + "]".repeat(40), "[".repeat(40) + "1,2" + "]".repeat(40));
    }

    /** "OBJECTS" */
    private static void checkObjects() {
        written("{}", "{}");
        written("{\"\":{}}", "{\"\":{}}");
        written("{\"a\":\"b\"}", "{\"a\":\"b\"}");
        written("{\"a\":".repeat(40) + "1" + "}".repeat(40), "{\"a\":".repeat(40) + "1" + "}".repeat(40));
        written("[" + "{\"b\":1,\"a\":[".repeat(19) + "2" + "]}".repeat(19) + "]",
                "[" + "{\"a\":[".repeat(19) + "2" + "],\"b\":1}".repeat(19) + "]");
    }

    /** "with NAMES by their characters (the first that differ, a beginning first)" */
    private static void checkOrderOfNames() {
        String[] rising = {"", "\\u0000", "\\u0000\\u0000", "\\u001f", " ", "!", "0", "00", "1", "10", "9", "A", "Z", "a", "aA", "aa", "aaa",
            "ab", "b", "ba", "~", "\\u007f", Bench.utf8("\u0080"), Bench.utf8("\u00FF"), Bench.utf8("\u00FFa"), Bench.utf8("\u0100"),
            Bench.utf8("\u07FF"), Bench.utf8("\u0800"), Bench.utf8("\uD7FF"), Bench.utf8("\uE000"), Bench.utf8("\uFFFF"),
            Bench.utf8("\uD800\uDC00"), Bench.utf8("\uD800\uDC00a"), Bench.utf8("\uDBFF\uDFFF")};
        for (int i = 0; i < rising.length; i++) {
            for (int k = i + 1; k < rising.length; k++) {
                String low = "\"" + rising[i] + "\":1";
                String high = "\"" + rising[k] + "\":2";
                String due = "{" + low + "," + high + "}";
                written("{" + low + "," + high + "}", due.replace("\\u007f", "\177"));
                written("{" + high + "," + low + "}", due.replace("\\u007f", "\177"));
            }
        }
        written("{" + reversed(60) + "}", "{" + Reading.members(60).replaceAll("\"(\\d)\"", "\"0$1\"") + "}");
        String name = "n".repeat(1990);
        written("{\"" + name + "b\":1,\"" + name + "a\":2,\"n\":3}", "{\"n\":3,\"" + name + "a\":2,\"" + name + "b\":1}");
    }

    /** So many MEMBERS, the highest NAME first. */
    private static String reversed(int times) {
        StringBuilder text = new StringBuilder();
        for (int i = times - 1; i >= 0; i--) {
            text.append(String.format("\"%02d\":0", i)).append(i == 0 ? "" : ",");
        }
        return text.toString();
    }

    /** "no blanks": but those in STRINGS */
    private static void checkNoBlanks() {
        written(" \t\n\r[ 1 ,\t{ \"a b\" : \" \" , \"c\"\n:\r2 } , [ ] , { } ] ", "[1,{\"a b\":\" \",\"c\":2},[],{}]");
    }

    /** "A VALUE is WRITTEN": each one of a TEXT */
    private static void checkParts() {
        Run run = Run.NEW.read(1, "{\"b\":[1.50,\"x\"],\"a\":{\"c\":null}}");
        String[] due = {"{\"a\":{\"c\":null},\"b\":[15e-1,\"x\"]}", "\"b\"", "[15e-1,\"x\"]", "15e-1", "\"x\"", "\"a\"", "{\"c\":null}", "\"c\"", "null"};
        for (int v = 0; v < due.length; v++) {
            Bench.due("VALUE " + v + " WRITTEN", run.write(1, v).written(), due[v]);
        }
    }

    /** "how many octets": up to the most that a TEXT can give */
    private static void checkHowMany() {
        written("0", "0");
        written("\"" + "\\t".repeat(4000) + "\"", "\"" + "\\u0009".repeat(4000) + "\"");
        StringBuilder text = new StringBuilder("[\"" + "\\n".repeat(4000) + "\"");
        StringBuilder due = new StringBuilder("[\"" + "\\u000a".repeat(4000) + "\"");
        for (int i = 0; i < 47; i++) {
            text.append(",1.1");
            due.append(",11e-1");
        }
        written(text + "]", due + "]");
        written("\"" + "\u00C3\u00A9".repeat(4000) + "\"", "\"" + "\u00C3\u00A9".repeat(4000) + "\"");
        String wide = "\u00F0\u009F\u0098\u0080".repeat(2047);
        written("\"" + wide + "\"", "\"" + wide + "\"");
    }

    /** "(they can be asked for until the next one is)" */
    private static void checkUntilTheNext() {
        Run run = Run.NEW.read(0, "[\"123456789\",2]").read(1, "[\"other\"]").write(0, 1);
        Bench.due("WRITTEN", run.written(), "\"123456789\"");
        Run[] behind = {run.feed("x"), run.read(0, "[0]"), run.read(0, "x"), run.read(1, ""), run.then(twin -> twin.pointer(0, 0)),
            run.then(twin -> twin.same(0, 0, 1, 0)), run.then(twin -> twin.octets(0)), run.then(twin -> twin.octets(9)), run.write(0, 9), run.write(2, 0)};
        for (int i = 0; i < behind.length; i++) {
            Bench.due("WRITTEN, behind call " + i, behind[i].written(), "\"123456789\"");
        }
        Run next = run.write(0, 2);
        Bench.due("the next one", next.written(), "2");
        next.refuses("octets of the one before", twin -> twin.octets(1), Bench.INDEX);
        next.takes("no octet of the one before", twin -> twin.octets(0), 0x3200000000000000L);
        Bench.due("one of the other TEXT", next.write(1, 1).written(), "\"other\"");
        Bench.due("the longer one again", next.write(0, 1).written(), "\"123456789\"");
    }

    /** "IllegalArgumentException: t. IndexOutOfBoundsException: there is none." */
    private static void checkWriteRefuses() {
        Run run = Run.NEW.read(0, "[7,8]").read(1, "\"old\"").write(1, 0).feed("[5]");
        for (int t : new int[] {-1, 2, 3, 256, Integer.MIN_VALUE, Integer.MAX_VALUE}) {
            run.refuses("write of TEXT " + t, twin -> twin.write(t, 0), Bench.ARGUMENT);
            run.refuses("write of TEXT " + t + " and no VALUE", twin -> twin.write(t, 9), Bench.ARGUMENT);
        }
        for (int v : new int[] {-1, 3, 4, 1000, Integer.MIN_VALUE, Integer.MAX_VALUE}) {
            run.refuses("write of VALUE " + v, twin -> twin.write(0, v), Bench.INDEX);
        }
        run.refuses("write of VALUE 1 of TEXT 1", twin -> twin.write(1, 1), Bench.INDEX);
        run.takes("write of the first VALUE", twin -> twin.write(0, 0), 5);
        run.takes("write of the last VALUE", twin -> twin.write(0, 2), 1);
        run.read(1, "x").feed("[5]").refuses("write of no TEXT", twin -> twin.write(1, 0), Bench.INDEX);
        Run.NEW.refuses("write of no TEXT, nothing WRITTEN", twin -> twin.write(0, 0), Bench.INDEX);
    }

    /** "Octets 8 k to 8 k + 7 of what was WRITTEN, the first one highest, 0 behind the end." */
    private static void checkOctets() {
        long[] firsts = {0x3100000000000000L, 0x3132000000000000L, 0x3132330000000000L, 0x3132333400000000L, 0x3132333435000000L,
            0x3132333435360000L, 0x3132333435363700L, 0x3132333435363738L};
        for (int size = 1; size <= 17; size++) {
            String text = "12345678123456781".substring(0, size);
            Run run = Run.NEW.read(0, text).takes("write of " + text, twin -> twin.write(0, 0), text.length());
            for (int k = 0; 8 * k < size; k++) {
                int eight = k;
                run.takes("octets " + k + " of " + text, twin -> twin.octets(eight), firsts[Math.min(8, size - 8 * k) - 1]);
            }
            int behind = (size + 7) / 8;
            run.refuses("octets behind " + text, twin -> twin.octets(behind), Bench.INDEX);
        }
        Run high = Run.NEW.read(0, "\"" + "\u00F4\u008F\u00BF\u00BF".repeat(2) + "\"").write(0, 0);
        high.takes("high octets", twin -> twin.octets(0), 0x22F48FBFBFF48FBFL);
        high.takes("the others", twin -> twin.octets(1), 0xBF22000000000000L);
    }

    /** "IndexOutOfBoundsException: there is none." */
    private static void checkOctetsRefuses() {
        Run.NEW.refuses("octets 0, nothing WRITTEN", twin -> twin.octets(0), Bench.INDEX);
        Run.NEW.refuses("octets -1, nothing WRITTEN", twin -> twin.octets(-1), Bench.INDEX);
        Run read = Run.NEW.read(0, "[1,2,3]").feed("[5]");
        read.refuses("octets 0, nothing WRITTEN but read", twin -> twin.octets(0), Bench.INDEX);
        Run run = read.write(0, 0);
        // 2 ** 29 times 8 wraps round to 0, 2 ** 28 times 8 to the least one.
        for (int k : new int[] {-1, 1, 2, 1 << 28, 1 << 29, 3 << 29, Integer.MIN_VALUE, Integer.MAX_VALUE}) {
            run.refuses("octets " + k, twin -> twin.octets(k), Bench.INDEX);
        }
        run.takes("octets 0", twin -> twin.octets(0), 0x5B312C322C335D00L);
        Run most = Run.NEW.read(0, "\"" + "\\n".repeat(4000) + "\"").write(0, 0);
        // 24,002 octets are 3,000 times eight and two.
        most.takes("the last octets", twin -> twin.octets(3000), 0x6122000000000000L);
        most.takes("octets behind them", twin -> twin.octets(3001), Bench.INDEX);
    }

    /** write changes what was WRITTEN alone, octets nothing. */
    private static void checkNothingChanges() {
        Run run = Run.NEW.read(0, "[7,8]").read(1, "x").read(1, "\"old\"").write(1, 0).feed("[5]");
        Bench.due("state behind octets", run.then(twin -> twin.octets(0)).state(), run.state());
        Run behind = run.write(0, 0);
        Bench.due("TEXT 0 behind write", behind.text(0), run.text(0));
        Bench.due("TEXT 1 behind write", behind.text(1), run.text(1));
        behind.takes("wrong behind write", Counted::wrong, -1);
        behind.takes("fed behind write", twin -> twin.count(2), 20);
        behind.takes("read behind write", twin -> twin.read(0, 3), 2);
    }
}
