/** The boundary cases of the fourth term and of pointer (promise 9); a method for each sentence, which stands above it. */
public final class PointerBoundsTest {
    private static final Run BOTH = Run.NEW.read(0, "{\"a\":[1,2],\"\":3}").read(1, "[{\"k\":[]}]").write(0, 0);

    public static void main(String[] args) {
        checkNothing();
        checkParts();
        checkOctetsAsTheyAre();
        checkTildes();
        checkTildesWithOthers();
        checkNames();
        checkNoUtf8();
        checkIndexes();
        checkDigits();
        checkDigitsOfIndex();
        checkElse();
        checkDeepest();
        checkFed();
        checkMostFed();
        checkN();
        checkT();
        checkNoText();
        checkWhichException();
        Bench.end();
    }

    /** The VALUE is found, or -1 none; what was fed is nothing then, and all else stays. */
    private static void points(Run run, int t, String pointer, int due) {
        String what = "pointer " + pointer + " into TEXT " + t;
        Run behind = run.feed(pointer).takes(what, twin -> twin.pointer(t, pointer.length()), due);
        Bench.due("state behind the " + what, behind.state(), run.state());
    }

    private static void points(String text, String pointer, int due) {
        points(Run.NEW.read(0, text).read(1, "x"), 0, pointer, due);
        points(Run.NEW.read(0, "{\"\":{}}").read(1, text), 1, pointer, due);
    }

    /** "A POINTER: nothing" */
    private static void checkNothing() {
        for (String text : new String[] {"null", "7", "\"\"", "[]", "[1]", "{}", "{\"\":1}"}) {
            points(text, "", 0);
        }
        BOTH.feed("/a").takes("nothing of what is fed", twin -> twin.pointer(0, 0), 0);
    }

    /** "or "/" and a part, again and again" */
    private static void checkParts() {
        String text = "{\"a\":{\"b\":{\"c\":5,\"\":6}},\"\":{\"\":{\"\":7}}}";
        points(text, "/a", 2);
        points(text, "/a/b", 4);
        points(text, "/a/b/c", 6);
        points(text, "/a/b/", 8);
        points(text, "/", 10);
        points(text, "//", 12);
        points(text, "///", 14);
        points(text, "////", -1);
        points(text, "/a/", -1);
        points(text, "/a//b", -1);
        points(text, "//a", -1);
        points(text, "/b", -1);
        points(text, "/a/c", -1);
        points(text, "/a/b/c/", -1);
        points(text, "/a/b/c/d", -1);
        points("{\"a/b\":1}", "/a/b", -1);
        // What does not begin with "/" is no POINTER.
        points(text, "a", -1);
        points(text, "a/b", -1);
        points(text, " /a", -1);
        points(text, "\0", -1);
        points(text, ".", -1);
        points(text, "0", -1);
        points("[1]", "0", -1);
        points("{\"a\":1}", "#/a", -1);
        points("{\"a\":1}", "~1a", -1);
    }

    /** "octets as they are" */
    private static void checkOctetsAsTheyAre() {
        points("{\" \":1,\"a\":2}", "/ ", 2);
        points("{\" \":1,\"a\":2}", "/ a", -1);
        points("{\" \":1,\"a\":2}", "/a ", -1);
        points("{\"%61\":1,\"a\":2}", "/%61", 2);
        points("{\"\\\\n\":1,\"\\n\":2}", "/\\n", 2);
        points("{\"\\\\n\":1,\"\\n\":2}", "/\n", 4);
        points("{\"\\\"\":1}", "/\"", 2);
        points("{\"\\\"\":1}", "/\\\"", -1);
        points("{\"\\u0000\":1,\"\":2}", "/\0", 2);
        points("{\"\\u0000\":1,\"\":2}", "/", 4);
        points("{\"a\":1}", "/a\0", -1);
        points("{\"a\":1}", "/A", -1);
    }

    /** "in a part ~0 is ~, ~1 is /" */
    private static void checkTildes() {
        String text = "{\"~\":1,\"/\":2,\"~1\":3,\"~0\":4,\"//\":5,\"~~\":6,\"a~b/c\":7,\"/~\":8}";
        points(text, "/~0", 2);
        points(text, "/~1", 4);
        points(text, "/~01", 6);
        points(text, "/~00", 8);
        points(text, "/~1~1", 10);
        points(text, "/~0~0", 12);
        points(text, "/a~0b~1c", 14);
        points(text, "/~1~0", 16);
        points(text, "/~0~1", -1);
        points(text, "/~10", -1);
        points(text, "/~11", -1);
        points("{\"a\":{\"~\":1},\"a/~\":2}", "/a/~0", 4);
        points("{\"a\":{\"~\":1},\"a/~\":2}", "/a~1~0", 6);
    }

    /** "(~ with others: none is found)" */
    private static void checkTildesWithOthers() {
        for (int octet = 0; octet < 256; octet++) {
            if (octet != '0' && octet != '1') {
                String name = octet < 32 || octet == 34 || octet == 92 ? String.format("\\u%04x", octet) : Bench.utf8(String.valueOf((char) octet));
                String part = octet < 128 ? String.valueOf((char) octet) : name;
                Run run = Run.NEW.read(0, "{\"~" + name + "\":1,\"" + name + "\":2}");
                run.feed("/~" + part).takes("pointer ~ with " + octet, twin -> twin.pointer(0, 2 + part.length()), -1);
            }
        }
        String text = "{\"~\":1,\"\":2,\"~a\":3,\"a~\":4,\"a\":{\"b\":5}}";
        points(text, "/~", -1);
        points(text, "/~a", -1);
        points(text, "/~0a", 6);
        points(text, "/a~", -1);
        points(text, "/a~0", 8);
        points(text, "/~~", -1);
        points(text, "/~0~", -1);
        points(text, "/~/", -1);
        points(text, "/~2", -1);
        points(text, "/a/b~", -1);
        points(text, "/a~/b", -1);
        points("[5]", "/~0", -1);
        points("[5]", "/0~", -1);
        points("[5]", "/~10", -1);
    }

    /** "Of an OBJECT the part is a NAME (its octets in UTF-8" */
    private static void checkNames() {
        String[] names = {"\177", "\u0080", "\u07FF", "\u0800", "\uD7FF", "\uE000", "\uFFFF", "\uD800\uDC00", "\uDBFF\uDFFF", "\u00E9\u20AC\uD83D\uDE00z"};
        for (String name : names) {
            points("{\"b\":0,\"" + Bench.utf8(name) + "\":1}", "/" + Bench.utf8(name), 4);
            points("{\"b\":0,\"" + Bench.utf8(name) + "\":1}", "/" + Bench.utf8(name) + "a", -1);
            points("{\"b\":0,\"" + Bench.utf8(name) + "a\":1}", "/" + Bench.utf8(name), -1);
        }
        points("{\"\\u00e9\":1,\"\\ud83d\\ude00\":2}", "/" + Bench.utf8("\u00E9"), 2);
        points("{\"\\u00e9\":1,\"\\ud83d\\ude00\":2}", "/" + Bench.utf8("\uD83D\uDE00"), 4);
        points("{\"abc\":1,\"ab\":2,\"\":3}", "/abc", 2);
        points("{\"abc\":1,\"ab\":2,\"\":3}", "/ab", 4);
        points("{\"abc\":1,\"ab\":2,\"\":3}", "/a", -1);
        points("{\"abc\":1,\"ab\":2,\"\":3}", "/abcd", -1);
        points("{\"0\":1,\"00\":2,\"1e0\":3,\"-1\":4,\"1000\":5}", "/00", 4);
        points("{\"0\":1,\"00\":2,\"1e0\":3,\"-1\":4,\"1000\":5}", "/1000", 10);
        points("{\"a\":\"b\"}", "/b", -1);
        String sixty = "{" + Reading.members(60) + "}";
        points(sixty, "/0", 2);
        points(sixty, "/59", 120);
        points(sixty, "/60", -1);
    }

    /** "if they are not UTF-8 none is found)" */
    private static void checkNoUtf8() {
        // 80 E9 7FF FFFF 10FFFF, and what shorter or longer forms of them, or parts of them, would be
        String text = Bench.utf8("{\"A\":0,\"\u0080\":1,\"\u00E9\":2,\"\u07FF\":3,\"\uFFFF\":4,\"\uD800\uDC00\":5,\"\":6,\"/\":7,\"\uFFFD\":8}");
        for (String octets : new String[] {"\u0080", "\u00BF", "\u00E9", "\u00C3", "\u00C3\u00A9\u00C3", "\u00C3\u00A9\u0080", "\u00C1\u0081",
                "\u00E0\u0082\u0080", "\u00E0\u0083\u00A9", "\u00E0\u009F\u00BF", "\u00F0\u008F\u00BF\u00BF", "\u00ED\u00A0\u0080\u00ED\u00B0\u0080",
                "\u00ED\u00A0\u0080", "\u00F0\u0090\u0080", "\u00F4\u0090\u0080\u0080", "\u00FF", "\u00C0\u0080", "\u00C0\u00AF", "\u00EF\u00BF"}) {
            points(text, "/" + octets, -1);
        }
        points(text, "/" + Bench.utf8("\u00E9"), 6);
        points(text, "/\u00C3/\u00A9", -1);
    }

    /** "of an ARRAY 0 or digits of which the first is not 0 ..., the part with this number" */
    private static void checkIndexes() {
        String sixty = "[" + Reading.list("[]", 60) + "]";
        for (int i = 0; i < 60; i++) {
            points(Run.NEW.read(0, sixty), 0, "/" + i, 1 + i);
        }
        points(sixty, "/60", -1);
        points(sixty, "/99", -1);
        points(sixty, "/100", -1);
        points("[]", "/0", -1);
        points("[5]", "/0", 1);
        points("[5]", "/1", -1);
        points("[[1,2],{\"b\":[3,4]},5]", "/1/b/1", 8);
        points("[[1,2],{\"b\":[3,4]},5]", "/2", 9);
        points("[[1,2],{\"b\":[3,4]},5]", "/0/2", -1);
    }

    /** "0 or digits of which the first is not 0" */
    private static void checkDigits() {
        String text = "[" + Reading.list("0", 12) + "]";
        points(text, "/0", 1);
        points(text, "/1", 2);
        points(text, "/9", 10);
        points(text, "/10", 11);
        points(text, "/00", -1);
        points(text, "/01", -1);
        points(text, "/010", -1);
        points(text, "/000", -1);
        points(text, "/", -1);
        points(text, "/-", -1);
        points(text, "/-0", -1);
        points(text, "/-1", -1);
        points(text, "/+1", -1);
        points(text, "/1.", -1);
        points(text, "/1e0", -1);
        points(text, "/ 1", -1);
        points(text, "/1 ", -1);
        points(text, "/1\0", -1);
        for (int octet = 0; octet < 256; octet++) {
            char c = (char) octet;
            int due = octet >= '0' && octet <= '9' ? 1 + octet - '0' : -1;
            Run run = Run.NEW.read(0, text);
            run.feed("/" + c).takes("pointer of octet " + octet, twin -> twin.pointer(0, 2), due);
            int behind = octet == '0' || octet == '1' ? 11 + octet - '0' : -1;
            run.feed("/1" + c).takes("pointer of 1 and octet " + octet, twin -> twin.pointer(0, 3), behind);
        }
    }

    /** "(at most 3)" */
    private static void checkDigitsOfIndex() {
        String text = "[" + Reading.list("0", 60) + "]";
        points(text, "/059", -1);
        points(text, "/999", -1);
        points(text, "/0059", -1);
        points(text, "/1000", -1);
        points(text, "/0000", -1);
        // These are 0, 1 and 59 in 8, 16 or 32 bits.
        points(text, "/256", -1);
        points(text, "/257", -1);
        points(text, "/65536", -1);
        points(text, "/4294967296", -1);
        points(text, "/4294967355", -1);
        points(text, "/18446744073709551616", -1);
        points(text, "/" + "9".repeat(1000), -1);
        points(text, "/1" + "0".repeat(1000), -1);
    }

    /** "else none is found": of a VALUE without parts no part is */
    private static void checkElse() {
        for (String text : new String[] {"null", "true", "false", "0", "10", "\"\"", "\"0\"", "\"a\""}) {
            for (String pointer : new String[] {"/", "/0", "/a", "//"}) {
                points(text, pointer, -1);
                points("[" + text + "]", "/0" + pointer, -1);
                points("{\"a\":" + text + "}", "/a" + pointer, -1);
            }
        }
        points("{\"a\":1}", "/0", -1);
        points("{}", "/", -1);
        points("{}", "/0", -1);
        points("[{\"a\":1}]", "/a", -1);
    }

    private static void checkDeepest() {
        String arrays = "[".repeat(40) + "5" + "]".repeat(40);
        points(arrays, "/0".repeat(40), 40);
        points(arrays, "/0".repeat(39), 39);
        points(arrays, "/0".repeat(41), -1);
        String objects = "{\"a\":".repeat(40) + "5" + "}".repeat(40);
        points(objects, "/a".repeat(40), 80);
        points(objects, "/a".repeat(41), -1);
    }

    /** "to which the first n octets of what was fed POINT (they are nothing then)" */
    private static void checkFed() {
        Run fed = BOTH.feed("/a/1/b");
        int[] due = {0, 6, 2, -1, 4, -1, -1};
        for (int n = 0; n < due.length; n++) {
            int octets = n;
            Run behind = fed.takes("pointer of the first " + n, twin -> twin.pointer(0, octets), due[n]);
            Bench.due("state behind the pointer of the first " + n, behind.state(), BOTH.state());
            behind.refuses("the octets once more", twin -> twin.pointer(0, 1), Bench.INDEX);
            behind.takes("nothing once more", twin -> twin.pointer(0, 0), 0);
            behind.takes("feed behind it", twin -> twin.feed(0, 0, 0, 0, 0), 20);
        }
        Run.NEW.read(0, "{\"~\":1}").feed("/~0").takes("a ~ that n cuts off", twin -> twin.pointer(0, 2), -1);
        // What stands behind n, from an earlier feed too, does not count.
        Run.NEW.read(0, "[[1]]").feed("/0/0").takes("what stands behind n", twin -> twin.pointer(0, 2), 1);
    }

    /** n may be all of the 8,200 octets that can be fed, more than a TEXT may have. */
    private static void checkMostFed() {
        Run full = Run.NEW.read(0, "{\"a\":1}").feed("/" + "a".repeat(8199));
        full.takes("pointer of 8,200 octets", twin -> twin.pointer(0, 8200), -1);
        full.takes("pointer of 8,193 octets", twin -> twin.pointer(0, 8193), -1);
        full.takes("pointer of 2 octets", twin -> twin.pointer(0, 2), 2);
        full.refuses("pointer of 8,201 octets", twin -> twin.pointer(0, 8201), Bench.INDEX);
        full.then(twin -> twin.pointer(0, 8200)).takes("fed behind it", twin -> twin.count(2), 0);
        points("{\"" + "~".repeat(2000) + "\":1}", "/" + "~0".repeat(2000), 2);
        points("{\"" + "~".repeat(2000) + "\":1}", "/" + "~0".repeat(1999), -1);
    }

    /** "IndexOutOfBoundsException: n is below 0, or above what was fed (all stays then)." */
    private static void checkN() {
        Run fed = BOTH.feed("/a");
        for (int n : new int[] {-1, -2, 21, 22, 8201, Integer.MIN_VALUE, Integer.MAX_VALUE}) {
            Run behind = fed.refuses("pointer of " + n, twin -> twin.pointer(0, n), Bench.INDEX);
            behind.takes("pointer behind it", twin -> twin.pointer(0, 2), 2);
        }
        fed.takes("pointer of all that is fed", twin -> twin.pointer(0, 20), -1);
        BOTH.refuses("pointer of 1, nothing fed", twin -> twin.pointer(0, 1), Bench.INDEX);
        BOTH.takes("pointer of 0, nothing fed", twin -> twin.pointer(0, 0), 0);
    }

    /** "IllegalArgumentException: t" */
    private static void checkT() {
        Run fed = BOTH.feed("/0/k");
        for (int t : new int[] {-1, 2, 3, 256, Integer.MIN_VALUE, Integer.MAX_VALUE}) {
            Run behind = fed.refuses("pointer into TEXT " + t, twin -> twin.pointer(t, 4), Bench.ARGUMENT);
            behind.takes("pointer behind it", twin -> twin.pointer(1, 4), 3);
        }
        fed.takes("pointer into TEXT 0", twin -> twin.pointer(0, 4), -1);
        fed.takes("pointer into TEXT 1", twin -> twin.pointer(1, 4), 3);
    }

    /** "or there is no TEXT t (looked at behind n; all stays)" */
    private static void checkNoText() {
        Run.NEW.refuses("pointer, no TEXT 0", twin -> twin.pointer(0, 0), Bench.ARGUMENT);
        Run.NEW.refuses("pointer, no TEXT 1", twin -> twin.pointer(1, 0), Bench.ARGUMENT);
        Run.NEW.refuses("pointer of 1, no TEXT", twin -> twin.pointer(0, 1), Bench.INDEX);
        Run one = Run.NEW.read(1, "[5]").feed("/0");
        one.refuses("pointer, TEXT 1 alone", twin -> twin.pointer(0, 2), Bench.ARGUMENT);
        one.refuses("pointer of 21, TEXT 1 alone", twin -> twin.pointer(0, 21), Bench.INDEX);
        one.takes("pointer into it", twin -> twin.pointer(1, 2), 1);
        Run gone = BOTH.read(1, "[").feed("/a");
        Run behind = gone.refuses("pointer, TEXT 1 gone", twin -> twin.pointer(1, 2), Bench.ARGUMENT);
        behind.takes("pointer into the other", twin -> twin.pointer(0, 2), 2);
        gone.refuses("pointer of -1, TEXT 1 gone", twin -> twin.pointer(1, -1), Bench.INDEX);
    }

    /** "Of several exceptions the one is thrown that the heading of the call names first" */
    private static void checkWhichException() {
        Run fed = BOTH.feed("/a");
        fed.refuses("pointer: t, n", twin -> twin.pointer(2, 21), Bench.INDEX);
        fed.refuses("pointer: t, n below 0", twin -> twin.pointer(-1, -1), Bench.INDEX);
        Run.NEW.refuses("pointer: t, n, no TEXT", twin -> twin.pointer(2, 1), Bench.INDEX);
    }
}
