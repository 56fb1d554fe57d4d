import java.util.Collections;

/** Promise 9 pointer. */
public final class PointerTest {
    private static final String TEXT = "{\"a\":[10,{\"b\":true},[]],\"\":{\"\":1},\"/\":2,\"~\":3,\"~1\":4,\"m~n/o\":5,\"~2\":6,\"0\":7,"
            + Bench.utf8("\"\u00E9\u20AC\uD83D\uDE00\":8,") + "\"x\\ny\":9,\"~\\u0001\":11,\" \":12,\"%41\":13,\"~0\":14,\"s\":\"t\"}";

    public static void main(String[] args) {
        checkNames();
        checkIndexes();
        checkFed();
        checkRefusals();
        Bench.end();
    }

    private static void found(String text, String pointer, String due) {
        Bench bench = Bench.of("0", text);
        int v = bench.pointer(1, pointer);
        Bench.due("pointer " + pointer, v < 0 ? "none" : bench.write(1, v), due);
        Bench.due("fed behind " + pointer, bench.twin.count(2), 0);
    }

    private static void checkNames() {
        Bench bench = Bench.of(TEXT);
        Bench.due("all", bench.pointer(0, ""), 0);
        Bench.due("a", bench.pointer(0, "/a"), 2);
        found(TEXT, "/a/1", "{\"b\":true}");
        found(TEXT, "/a/1/b", "true");
        found(TEXT, "/a/2", "[]");
        found(TEXT, "/", "{\"\":1}");
        found(TEXT, "//", "1");
        found(TEXT, "///", "none");
        found(TEXT, "/~1", "2");
        found(TEXT, "/~0", "3");
        found(TEXT, "/~01", "4");
        found(TEXT, "/~00", "14");
        found(TEXT, "/m~0n~1o", "5");
        found(TEXT, "/~2", "none");
        found(TEXT, "/~02", "6");
        found(TEXT, "/~", "none");
        found(TEXT, "/~/", "none");
        found(TEXT, "/a~", "none");
        found(TEXT, "/a/~0", "none");
        found(TEXT, "/~\1", "none");
        found(TEXT, "/~0\1", "11");
        found(TEXT, "/0", "7");
        found(TEXT, "/00", "none");
        found(TEXT, "/" + Bench.utf8("\u00E9\u20AC\uD83D\uDE00"), "8");
        found(TEXT, "/\u00E9", "none");
        found(TEXT, "/\u00C3", "none");
        found(TEXT, "/\u00C3\u00A9", "none");
        found(TEXT, "/x\ny", "9");
        found(TEXT, "/x\\ny", "none");
        found(TEXT, "/ ", "12");
        found(TEXT, "/%41", "13");
        found(TEXT, "/A", "none");
        found(TEXT, "/b", "none");
        found(TEXT, "/aa", "none");
        found(TEXT, "/s", "\"t\"");
        found(TEXT, "/s/", "none");
        found(TEXT, "/s/0", "none");
        found(TEXT, "/0/0", "none");
        found(TEXT, "a", "none");
        found(TEXT, "a/a", "none");
        found(TEXT, "~1a", "none");
        found("{\"A\":1}", "/\u00C1\u0081", "none");
        found("[{\"a\":{\"b\":1,\"a\":{\"a\":2}}}]", "/0/a/a/a", "2");
        found("3", "", "3");
        found("3", "/", "none");
        found("null", "/0", "none");
        found("{\"a\":".repeat(40) + "5" + "}".repeat(40), "/a".repeat(40), "5");
        found("{\"a\":".repeat(40) + "5" + "}".repeat(40), "/a".repeat(41), "none");
        String name = "n".repeat(3999);
        found("{\"" + name + "\":1,\"n\":2}", "/" + name, "1");
        found("{\"" + name + "\":1,\"n\":2}", "/" + name + "n", "none");
        found("{\"" + name + "\":1,\"n\":2}", "/n", "2");
    }

    private static void checkIndexes() {
        StringBuilder numbers = new StringBuilder("0");
        for (int i = 1; i < 60; i++) {
            numbers.append(",").append(i).append("e1");
        }
        String text = "[" + numbers + "]";
        found(text, "/0", "0");
        found(text, "/1", "1e1");
        found(text, "/9", "9e1");
        found(text, "/10", "1e2");
        found(text, "/59", "59e1");
        found(text, "/60", "none");
        found(text, "/059", "none");
        found(text, "/00", "none");
        found(text, "/", "none");
        found(text, "/-", "none");
        found(text, "/-1", "none");
        found(text, "/+1", "none");
        found(text, "/1 ", "none");
        found(text, "/1e0", "none");
        found(text, "/a", "none");
        found(text, "/:", "none");
        found(text, "/999", "none");
        found(text, "/4294967296", "none");
        found(text, "/0000", "none");
        found(text, "/0/0", "none");
        found("[]", "/0", "none");
        String nested = "[" + String.join(",", Collections.nCopies(3, "[1,[2,3],4]")) + "]";
        found(nested, "/2/1/1", "3");
        found(nested, "/2/1", "[2,3]");
        found(nested, "/2/1/1/", "none");
    }

    private static void checkFed() {
        Bench bench = Bench.of("{\"a\":1}");
        bench.feed("/a/b");
        Bench.due("the first two", bench.twin.pointer(0, 2), 2);
        Bench.due("fed is gone", bench.twin.count(2), 0);
        Bench tilde = Bench.of("{\"~\":1}");
        tilde.feed("/~0");
        Bench.due("~ at the end", tilde.twin.pointer(0, 2), -1);
        bench.feed("/b");
        Bench.due("none", bench.twin.pointer(0, 2), -1);
        Bench.due("fed is gone", bench.twin.count(2), 0);
        bench.feed("/a");
        Bench.due("nothing", bench.twin.pointer(0, 0), 0);
        Bench.due("fed is gone", bench.twin.count(2), 0);
        Bench.due("the octets 0 behind", bench.pointer(0, "/a\0"), -1);
    }

    private static void checkRefusals() {
        Bench bench = Bench.of("{\"a\":1}");
        Counted twin = bench.twin;
        bench.feed("/a");
        Bench.due("n below 0", () -> twin.pointer(0, -1), Bench.INDEX);
        Bench.due("n least", () -> twin.pointer(0, Integer.MIN_VALUE), Bench.INDEX);
        Bench.due("n above the fed", () -> twin.pointer(0, 21), Bench.INDEX);
        Bench.due("n before t", () -> twin.pointer(2, 21), Bench.INDEX);
        Bench.due("n before no TEXT", () -> twin.pointer(1, -1), Bench.INDEX);
        Bench.due("t 2", () -> twin.pointer(2, 2), Bench.ARGUMENT);
        Bench.due("t -1", () -> twin.pointer(-1, 2), Bench.ARGUMENT);
        Bench.due("no TEXT", () -> twin.pointer(1, 2), Bench.ARGUMENT);
        Bench.due("fed stays", twin.count(2), 20);
        Bench.due("pointer", twin.pointer(0, 2), 2);
    }
}
