/** Promises 2 feed, 3 read, 4 wrong (what it stays or becomes) and 12 count. */
public final class FeedReadTest {
    public static void main(String[] args) {
        checkFeed();
        checkReadRefuses();
        checkReadReplaces();
        checkCount();
        Bench.end();
    }

    private static void checkFeed() {
        Counted twin = new Counted();
        // The octets of "[1,2,3,4,5,6,7,8,9]" and a blank, four in each number.
        Bench.due("feed", twin.feed(0x5B312C32, 0x2C332C34, 0x2C352C36, 0x2C372C38, 0x2C395D20), 20);
        Bench.due("read", twin.read(0, 20), 10);
        for (int i = 1; i <= 410; i++) {
            Bench.due("feed " + i, twin.feed(-1, -1, -1, -1, -1), 20 * i);
        }
        Bench.due("feed beyond 8,200", () -> twin.feed(0, 0, 0, 0, 0), Bench.INDEX);
        Bench.due("count of the fed", twin.count(2), 8200);
        Bench.due("pointer takes more than a TEXT has", twin.pointer(0, 8200), -1);
        Bench.due("feed again", twin.feed(0, 0, 0, 0, 0), 20);
    }

    private static void checkReadRefuses() {
        Bench bench = Bench.of("[1,2]");
        Counted twin = bench.twin;
        bench.read(1, "x");
        Bench.due("wrong", twin.wrong(), 0);
        bench.feed("null");
        Bench.due("n below 0", () -> twin.read(0, -1), Bench.INDEX);
        Bench.due("n least", () -> twin.read(0, Integer.MIN_VALUE), Bench.INDEX);
        Bench.due("n above the fed", () -> twin.read(0, 21), Bench.INDEX);
        Bench.due("n most", () -> twin.read(0, Integer.MAX_VALUE), Bench.INDEX);
        Bench.due("n before t", () -> twin.read(2, 21), Bench.INDEX);
        Bench.due("t 2", () -> twin.read(2, 4), Bench.ARGUMENT);
        Bench.due("t -1", () -> twin.read(-1, 4), Bench.ARGUMENT);
        Bench.due("fed stays", twin.count(2), 20);
        Bench.due("TEXT stays", twin.count(0), 3);
        Bench.due("wrong stays", twin.wrong(), 0);
        Bench.due("read", twin.read(0, 4), 1);
        Bench.due("wrong of a good one", twin.wrong(), -1);
        Bench.due("fed is gone", twin.count(2), 0);

        Bench full = new Bench();
        full.feed(" ".repeat(8200));
        Bench.due("n above 8,192", () -> full.twin.read(0, 8193), Bench.INDEX);
        Bench.due("n 8,192", () -> full.twin.read(0, 8192), Bench.ARGUMENT);
        Bench.due("wrong at the end", full.twin.wrong(), 8192);
        Bench largest = new Bench();
        Bench.due("largest TEXT", largest.read(0, " ".repeat(8191) + "0"), 1);
    }

    private static void checkReadReplaces() {
        Bench bench = Bench.of("[1,2]", "[3]");
        Counted twin = bench.twin;
        Bench.due("read", bench.read(0, "\"abc\""), 1);
        Bench.due("first TEXT", bench.write(0, 0), "\"abc\"");
        Bench.due("second TEXT stays", bench.write(1, 0), "[3]");
        Bench.due("wrong one", bench.read(1, "[3,4"), -1);
        Bench.due("wrong", twin.wrong(), 4);
        Bench.due("fed is gone", twin.count(2), 0);
        Bench.due("no TEXT 1", twin.count(1), 0);
        Bench.due("no VALUE", () -> twin.value(1, 0, 0), Bench.INDEX);
        Bench.due("no pointer", () -> twin.pointer(1, 0), Bench.ARGUMENT);
        Bench.due("TEXT 0 stays", bench.write(0, 0), "\"abc\"");
        Bench.due("what was WRITTEN stays", twin.count(3), 5);
        Bench.due("read again", bench.read(1, "{\"a\":[{}]}"), 4);
        Bench.due("wrong", twin.wrong(), -1);
        Bench.due("read part of the fed", readPart(), 2);
        checkNothingIsLeft();
    }

    /** A TEXT has nothing of the one that was there before. */
    private static void checkNothingIsLeft() {
        Bench bench = Bench.of("[-1.5,{\"b\":[1]}]");
        Bench.due("read", bench.read(0, "[0,null,\"\",true]"), 5);
        for (int v = 1; v < 5; v++) {
            Bench.due("how many of " + v, bench.twin.value(0, v, 3), 0);
            Bench.due("EXPONENT of " + v, bench.twin.value(0, v, 4), 0);
            Bench.due("sign of " + v, bench.twin.value(0, v, 5), 0);
            Bench.due("first of " + v, bench.twin.value(0, v, 6), -1);
        }
        Bench.due("read an OBJECT", bench.read(0, "{\"b\":2,\"a\":1}"), 5);
        Bench.due("WRITTEN", bench.write(0, 0), "{\"a\":1,\"b\":2}");
        Bench large = Bench.of("\"" + "a".repeat(4000) + "\"");
        large.read(0, "\"" + "b".repeat(4000) + "\"");
        Bench.due("read a third", large.read(0, "\"" + "c".repeat(300) + "\""), 1);
        Bench.due("characters of the third", large.twin.value(0, 0, 3), 300);
        Bench.due("the last one", large.twin.letter(0, 0, 299), (int) 'c');
    }

    private static int readPart() {
        Bench bench = new Bench();
        bench.feed("[1],x");
        return bench.twin.read(0, 3);
    }

    private static void checkCount() {
        Bench bench = Bench.of("[1,2]", "{\"a\":7,\"b\":[8,9]}");
        Counted twin = bench.twin;
        bench.feed("x".repeat(21));
        twin.write(1, 0);
        Bench.due("count 0", twin.count(0), 3);
        Bench.due("count 1", twin.count(1), 7);
        Bench.due("count 2", twin.count(2), 40);
        Bench.due("count 3", twin.count(3), 17);
        Bench.due("count 4", () -> twin.count(4), Bench.ARGUMENT);
        Bench.due("count -1", () -> twin.count(-1), Bench.ARGUMENT);
    }
}
