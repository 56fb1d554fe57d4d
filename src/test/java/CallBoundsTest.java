/** The boundary cases of promises 1 to 6 and 12; a method for each sentence, which stands above it. */
public final class CallBoundsTest {
    private static final int[] NO_TEXTS = {-1, 2, 3, 256, Integer.MIN_VALUE, Integer.MAX_VALUE};
    private static final Run BOTH = Run.NEW.read(0, "{\"a\":[-2.50,\"xy\"],\"b\":null}").read(1, "[true]").write(0, 0);

    public static void main(String[] args) {
        checkNewObject();
        checkFeedOrder();
        checkFeedCount();
        checkFeedFull();
        checkReadFirstOctets();
        checkReadN();
        checkReadT();
        checkReadWrong();
        checkReadWhichException();
        checkWrong();
        checkWrongStays();
        checkKinds();
        checkHolders();
        checkSizes();
        checkExponentsAndSigns();
        checkFirsts();
        checkNexts();
        checkValueRefuses();
        checkLetters();
        checkLetterRefuses();
        checkCount();
        checkCountRefuses();
        checkAnswersChangeNothing();
        checkManyCalls();
        Bench.end();
    }

    /** Promise 1: "No TEXTS, nothing fed." */
    private static void checkNewObject() {
        Run run = Run.NEW;
        for (int what = 0; what < 4; what++) {
            int counted = what;
            run.takes("count " + what, twin -> twin.count(counted), 0);
        }
        run.takes("wrong", Counted::wrong, -1);
        for (int t = 0; t < 2; t++) {
            int text = t;
            run.refuses("read of 1 as TEXT " + t, twin -> twin.read(text, 1), Bench.INDEX);
            run.refuses("value of TEXT " + t, twin -> twin.value(text, 0, 0), Bench.INDEX);
            run.refuses("letter of TEXT " + t, twin -> twin.letter(text, 0, 0), Bench.INDEX);
            run.refuses("same of TEXT " + t, twin -> twin.same(text, 0, text, 0), Bench.INDEX);
            run.refuses("compare of TEXT " + t, twin -> twin.compare(text, 0, text, 0), Bench.INDEX);
            run.refuses("pointer into TEXT " + t, twin -> twin.pointer(text, 0), Bench.ARGUMENT);
            run.refuses("write of TEXT " + t, twin -> twin.write(text, 0), Bench.INDEX);
            Run behind = run.takes("read of nothing as TEXT " + t, twin -> twin.read(text, 0), Bench.ARGUMENT);
            behind.takes("wrong of nothing", Counted::wrong, 0);
        }
        run.refuses("octets 0", twin -> twin.octets(0), Bench.INDEX);
        Counted other = new Counted();
        other.feed("[1]");
        other.read(0, 3);
        run.takes("what another object has read", twin -> twin.count(0), 0);
    }

    /** Promise 2: "20 octets, four of a first, the highest one first" */
    private static void checkFeedOrder() {
        Run run = Run.NEW.then(twin -> twin.feed(0x22616263, 0x64656667, 0x68696A6B, 0x6C6D6E6F, 0x70717222));
        Run behind = run.takes("read of 20 octets", twin -> twin.read(0, 20), 1);
        for (int k = 0; k < 18; k++) {
            int place = k;
            behind.takes("octet " + (k + 1), twin -> twin.letter(0, 0, place), 'a' + k);
        }
        // Octets from 128 on, in each of the four places of a number: 10FFFF twice, then FFFF.
        Run high = Run.NEW.then(twin -> twin.feed(0x2241F48F, 0xBFBFF48F, 0xBFBFEFBF, 0xBF220000, 0));
        Run read = high.takes("read of high octets", twin -> twin.read(0, 14), 1);
        read.takes("the first", twin -> twin.letter(0, 0, 1), 0x10FFFF);
        read.takes("the second", twin -> twin.letter(0, 0, 2), 0x10FFFF);
        read.takes("the third", twin -> twin.letter(0, 0, 3), 0xFFFF);
        Run two = Run.NEW.feed("[1,2,3,4,5,6,7,8,9,0").feed(",1]").takes("read over two feeds", twin -> twin.read(0, 23), 12);
        two.takes("the part behind the first feed", twin -> twin.letter(0, 11, 0), 1);
    }

    /** Promise 2: "come to what is fed: how many octets are" */
    private static void checkFeedCount() {
        Run run = Run.NEW;
        for (int i = 1; i <= 5; i++) {
            run = run.takes("feed " + i, twin -> twin.feed(-1, Integer.MIN_VALUE, Integer.MAX_VALUE, 0, 1), 20 * i);
            run.takes("count behind feed " + i, twin -> twin.count(2), 20 * i);
        }
        Run read = run.then(twin -> twin.read(0, 100));
        read.takes("feed behind a WRONG read", twin -> twin.feed(0, 0, 0, 0, 0), 20);
        BOTH.feed("null").then(twin -> twin.read(0, 4)).takes("feed behind a read", twin -> twin.feed(0, 0, 0, 0, 0), 20);
        BOTH.feed("/a").then(twin -> twin.pointer(0, 2)).takes("feed behind a pointer", twin -> twin.feed(0, 0, 0, 0, 0), 20);
        BOTH.feed("/a").then(twin -> twin.pointer(2, 2)).takes("feed behind a refused pointer", twin -> twin.feed(0, 0, 0, 0, 0), 40);
        BOTH.feed("/a").then(twin -> twin.read(0, 21)).takes("feed behind a refused read", twin -> twin.feed(0, 0, 0, 0, 0), 40);
    }

    /** Promise 2: "IndexOutOfBoundsException: there would be more than 8,200." */
    private static void checkFeedFull() {
        Run almost = Run.NEW.feed("[1" + " ".repeat(8178));
        almost.takes("fed before the last feed", twin -> twin.count(2), 8180);
        Run full = almost.takes("the last feed", twin -> twin.feed(0x2C325D20, 0x20202020, 0x20202020, 0x20202020, 0x20202020), 8200);
        Run refused = full.refuses("feed beyond 8,200", twin -> twin.feed(0, 0, 0, 0, 0), Bench.INDEX);
        refused = refused.refuses("feed beyond 8,200 again", twin -> twin.feed(-1, -1, -1, -1, -1), Bench.INDEX);
        refused.takes("fed behind it", twin -> twin.count(2), 8200);
        Run read = refused.takes("read behind it", twin -> twin.read(0, 8192), 3);
        read.takes("feed behind the read", twin -> twin.feed(0, 0, 0, 0, 0), 20);
    }

    /** Promise 3: "TEXT t (0, 1) is the first n octets of what was fed (which is nothing then, WRONG or not)" */
    private static void checkReadFirstOctets() {
        Run fed = BOTH.feed("[1] 2");
        Run three = fed.takes("read of the first 3", twin -> twin.read(1, 3), 2);
        three.takes("fed behind it", twin -> twin.count(2), 0);
        three.refuses("read of the rest", twin -> twin.read(1, 1), Bench.INDEX);
        Run five = fed.takes("read of the first 5", twin -> twin.read(1, 5), Bench.ARGUMENT);
        five.takes("wrong", Counted::wrong, 4);
        five.takes("fed behind it", twin -> twin.count(2), 0);
        five.refuses("read of the rest behind a WRONG one", twin -> twin.read(1, 1), Bench.INDEX);
        Run zero = fed.takes("read of the first 0", twin -> twin.read(1, 0), Bench.ARGUMENT);
        zero.takes("wrong of none", Counted::wrong, 0);
        zero.takes("fed behind none", twin -> twin.count(2), 0);
        // Octets of an earlier feed, which stood there, are not read again.
        Run.NEW.feed("[1,2,3]").then(twin -> twin.read(0, 2)).feed("[1").takes("cut off", twin -> twin.read(0, 2), Bench.ARGUMENT);
        Run old = Run.NEW.read(0, "[1,2,3,4,5,6,7,8,9,10,11]").feed("[1").takes("more than fed", twin -> twin.read(0, 21), Bench.INDEX);
        old.takes("the octets 0 that were fed", twin -> twin.read(0, 20), Bench.ARGUMENT);
    }

    /** Promise 3: "Looked at first, IndexOutOfBoundsException: n is below 0, above 8,192, or above what was fed (all stays then)." */
    private static void checkReadN() {
        Run fed = BOTH.read(1, "[1,").feed("[3,4]               ");
        for (int n : new int[] {-1, -2, 21, 22, 8192, 8193, 8200, Integer.MIN_VALUE, Integer.MAX_VALUE}) {
            for (int t = 0; t < 2; t++) {
                int text = t;
                Run behind = fed.refuses("read of " + n + " as TEXT " + t, twin -> twin.read(text, n), Bench.INDEX);
                behind.takes("wrong behind it", Counted::wrong, 3);
                behind.takes("read behind it", twin -> twin.read(text, 5), 3);
            }
        }
        fed.takes("read of all that is fed", twin -> twin.read(0, 20), 3);
        Run full = Run.NEW.read(0, "[6,7]").feed("[8]" + " ".repeat(8197));
        for (int n : new int[] {8193, 8199, 8200, 8201}) {
            full.refuses("read of " + n + " of 8,200", twin -> twin.read(0, n), Bench.INDEX);
        }
        full.takes("read of 8,192 of 8,200", twin -> twin.read(0, 8192), 2);
        full.takes("read of 8,191 of 8,200", twin -> twin.read(0, 8191), 2);
        Run.NEW.refuses("read of 1, nothing fed", twin -> twin.read(0, 1), Bench.INDEX);
        Run.NEW.refuses("read of -1, nothing fed", twin -> twin.read(0, -1), Bench.INDEX);
    }

    /** Promise 3: "IllegalArgumentException: t (all stays)" */
    private static void checkReadT() {
        for (Run before : new Run[] {BOTH, BOTH.read(0, "[1,"), Run.NEW}) {
            for (String text : new String[] {"[3,4]", "[3,"}) {
                Run fed = before.feed(text);
                for (int t : NO_TEXTS) {
                    Run behind = fed.refuses("read of " + text + " as TEXT " + t, twin -> twin.read(t, text.length()), Bench.ARGUMENT);
                    behind.takes("fed behind it", twin -> twin.count(2), 20);
                    behind.takes("read of the first behind it", twin -> twin.read(0, 1), Bench.ARGUMENT);
                }
                fed.refuses("read of nothing as TEXT 2", twin -> twin.read(2, 0), Bench.ARGUMENT);
            }
        }
        BOTH.feed("[3,4]").takes("read as TEXT 0", twin -> twin.read(0, 5), 3);
        BOTH.feed("[3,4]").takes("read as TEXT 1", twin -> twin.read(1, 5), 3);
    }

    /** Promise 3: "or WRONG: there is no TEXT t then" */
    private static void checkReadWrong() {
        for (int t = 0; t < 2; t++) {
            int text = t;
            Run behind = BOTH.feed("[3,4").takes("WRONG read as TEXT " + t, twin -> twin.read(text, 4), Bench.ARGUMENT);
            behind.takes("VALUES of it", twin -> twin.count(text), 0);
            behind.takes("value of it", twin -> twin.value(text, 0, 0), Bench.INDEX);
            behind.takes("letter of it", twin -> twin.letter(text, 1, 0), Bench.INDEX);
            behind.takes("same of it", twin -> twin.same(text, 0, text, 0), Bench.INDEX);
            behind.takes("same with it", twin -> twin.same(1 - text, 0, text, 0), Bench.INDEX);
            behind.takes("compare of it", twin -> twin.compare(text, 1, text, 1), Bench.INDEX);
            behind.takes("pointer into it", twin -> twin.pointer(text, 0), Bench.ARGUMENT);
            behind.takes("write of it", twin -> twin.write(text, 0), Bench.INDEX);
            behind.takes("fed", twin -> twin.count(2), 0);
            Bench.due("the other TEXT", behind.text(1 - text), BOTH.text(1 - text));
            Bench.due("WRITTEN", behind.written(), BOTH.written());
            behind.feed("[3,4]").takes("read of a good one", twin -> twin.read(text, 5), 3);
        }
    }

    /** "Of several exceptions the one is thrown that the heading of the call names first" */
    private static void checkReadWhichException() {
        Run fed = BOTH.feed("[3,");
        fed.refuses("read: t, n above", twin -> twin.read(2, 21), Bench.INDEX);
        fed.refuses("read: t, n below", twin -> twin.read(-1, -1), Bench.INDEX);
        fed.refuses("read: n above, WRONG", twin -> twin.read(0, 21), Bench.INDEX);
        fed.refuses("read: t, WRONG", twin -> twin.read(2, 3), Bench.ARGUMENT);
        Run full = Run.NEW.feed("x".repeat(8200));
        full.refuses("read: t, n above 8,192", twin -> twin.read(2, 8193), Bench.INDEX);
        full.refuses("read: t, n 8,192", twin -> twin.read(2, 8192), Bench.ARGUMENT);
        full.takes("read: WRONG, n 8,192", twin -> twin.read(1, 8192), Bench.ARGUMENT);
    }

    /** Promise 4: "Where the latest TEXT that was read was WRONG; -1 if it was not, or there was none." */
    private static void checkWrong() {
        Run.NEW.takes("wrong, no TEXT", Counted::wrong, -1);
        Run.NEW.read(0, "1").takes("wrong of a good TEXT 0", Counted::wrong, -1);
        Run.NEW.read(1, "1").takes("wrong of a good TEXT 1", Counted::wrong, -1);
        for (int t = 0; t < 2; t++) {
            Run.NEW.read(t, "").takes("wrong at 0, the end", Counted::wrong, 0);
            Run.NEW.read(t, "x").takes("wrong at 0", Counted::wrong, 0);
            Run.NEW.read(t, "[x").takes("wrong at 1", Counted::wrong, 1);
            Run.NEW.read(t, " ".repeat(8191) + "x").takes("wrong at the last octet", Counted::wrong, 8191);
            Run.NEW.read(t, " ".repeat(8192)).takes("wrong at the last end", Counted::wrong, 8192);
            Run.NEW.read(t, "[x").read(1 - t, "1").takes("a WRONG one, then a good one", Counted::wrong, -1);
            Run.NEW.read(t, "1").read(1 - t, "[x").takes("a good one, then a WRONG one", Counted::wrong, 1);
            Run.NEW.read(t, "[x").read(1 - t, "[1,x").takes("two WRONG ones", Counted::wrong, 3);
            Run.NEW.read(t, "[x").read(t, "[1,2]").takes("a WRONG one, then a good one in its place", Counted::wrong, -1);
        }
    }

    /** The same sentence: what is refused was not read, and no other call reads. */
    private static void checkWrongStays() {
        for (Run run : new Run[] {BOTH, BOTH.read(1, "[7,8,x]")}) {
            String due = run.answer(Counted::wrong);
            run.feed("[x").then(twin -> twin.read(2, 2)).takes("wrong behind a refused t", Counted::wrong, due);
            run.feed("[x").then(twin -> twin.read(0, 21)).takes("wrong behind a refused n", Counted::wrong, due);
            run.feed("[x").takes("wrong behind feed", Counted::wrong, due);
            run.feed("[x").then(twin -> twin.pointer(0, 2)).takes("wrong behind pointer", Counted::wrong, due);
            run.write(0, 0).takes("wrong behind write", Counted::wrong, due);
            run.write(0, 99).takes("wrong behind a refused write", Counted::wrong, due);
            run.then(Counted::wrong).takes("wrong behind wrong", Counted::wrong, due);
        }
    }

    private static void facts(String text, int what, int... due) {
        Run run = Run.NEW.read(0, "0").read(1, text);
        run.takes("VALUES of " + text, twin -> twin.count(1), due.length);
        for (int v = 0; v < due.length; v++) {
            int value = v;
            run.takes("value " + v + " of " + text + ", what " + what, twin -> twin.value(1, value, what), due[v]);
        }
    }

    /** Promise 5: "what 0: its kind; 1: where it begins" */
    private static void checkKinds() {
        String text = "[null,false,true,0,\"\",[],{\"a\":{}}]";
        facts(text, 0, JsonTwin.ARRAY, JsonTwin.NULL, JsonTwin.FALSE, JsonTwin.TRUE, JsonTwin.NUMBER, JsonTwin.STRING, JsonTwin.ARRAY,
                JsonTwin.OBJECT, JsonTwin.STRING, JsonTwin.OBJECT);
        facts(text, 0, 5, 0, 1, 2, 3, 4, 5, 6, 4, 6);
        facts(text, 1, 0, 1, 6, 12, 17, 19, 22, 25, 26, 30);
        facts(" \n[ -1 , { \"a\" : \"b\" } ]", 1, 2, 4, 9, 11, 17);
        facts(" ".repeat(8191) + "1", 1, 8191);
    }

    /** Promise 5: "2: the VALUE in which it is (-1 of the first one; of a NAME, and of its VALUE, the OBJECT)" */
    private static void checkHolders() {
        facts("null", 2, -1);
        facts("[]", 2, -1);
        facts("{}", 2, -1);
        facts("[1,[2],3]", 2, -1, 0, 0, 2, 0);
        facts("{\"a\":1,\"b\":{\"c\":2},\"d\":[3]}", 2, -1, 0, 0, 0, 0, 4, 4, 0, 0, 8);
    }

    /** Promise 5: "3: how many parts, characters, or DIGITS (0 of others)" */
    private static void checkSizes() {
        facts("[null,false,true]", 3, 3, 0, 0, 0);
        facts("[[],{},\"\",0,-0.00]", 3, 5, 0, 0, 0, 0, 0);
        facts("[[0],{\"ab\":0},\"a\",7,10,105]", 3, 6, 1, 0, 1, 2, 0, 1, 1, 1, 3);
        facts("{\"a\":[[],[]],\"\":1}", 3, 2, 1, 2, 0, 0, 0, 1);
        facts("\"" + "a".repeat(4000) + "\"", 3, 4000);
        facts("\"\\ud83d\\ude00\\n\u00C3\u00A9\"", 3, 3);
        facts("9".repeat(60), 3, 60);
        Run.NEW.read(1, "[" + Reading.list("1", 60) + "]").takes("60 parts", twin -> twin.value(1, 0, 3), 60);
        Run.NEW.read(1, "{" + Reading.members(60) + "}").takes("60 MEMBERS", twin -> twin.value(1, 0, 3), 60);
    }

    /** Promise 5: "4: the EXPONENT (0 of others); 5: 1 if it has the sign" */
    private static void checkExponentsAndSigns() {
        String text = "[null,false,true,\"-1e5\",[-1e5],{\"-2e5\":-10},0,-0e5,5,-5,-0.5,1e999,-1e-999]";
        facts(text, 4, 0, 0, 0, 0, 0, 0, 5, 0, 0, 1, 0, 0, 0, 0, -1, 999, -999);
        facts(text, 5, 0, 0, 0, 0, 0, 0, 1, 0, 0, 1, 0, 0, 0, 1, 1, 0, 1);
    }

    /** Promise 5: "6: its first part, NAME, or of a NAME its VALUE (-1 none)" */
    private static void checkFirsts() {
        facts("[]", 6, -1);
        facts("{}", 6, -1);
        facts("[null,false,true,0,\"a\"]", 6, 1, -1, -1, -1, -1, -1);
        facts("[[],[5,6],{}]", 6, 1, -1, 3, -1, -1, -1);
        facts("{\"b\":\"s\",\"a\":{\"c\":[7]},\"\":{}}", 6, 1, 2, -1, 4, 5, 6, 7, -1, 9, -1);
    }

    /** Promise 5: "7: of a part of an ARRAY the next one, of a NAME the next one (-1 none, and of others, of a NAME'S VALUE, too)" */
    private static void checkNexts() {
        facts("7", 7, -1);
        facts("[]", 7, -1);
        facts("[1]", 7, -1, -1);
        facts("[1,[2,3],{\"a\":4,\"b\":5},6]", 7, -1, 2, 5, 4, -1, 10, 8, -1, -1, -1, -1);
        facts("{\"b\":[1,2],\"a\":{\"c\":3,\"d\":4},\"\":5}", 7, -1, 5, -1, 4, -1, 11, -1, 9, -1, -1, -1, -1, -1);
        facts("[\"a\",\"b\"]", 7, -1, 2, -1);
        facts("{\"a\":\"b\",\"c\":\"d\"}", 7, -1, 3, -1, -1, -1);
    }

    /** Promise 5: "IllegalArgumentException: t, what. IndexOutOfBoundsException: there is no such VALUE." */
    private static void checkValueRefuses() {
        Run run = BOTH.feed("[5]");
        for (int t : NO_TEXTS) {
            run.refuses("value of TEXT " + t, twin -> twin.value(t, 0, 0), Bench.ARGUMENT);
            run.refuses("value of TEXT " + t + ", no VALUE", twin -> twin.value(t, -1, 0), Bench.ARGUMENT);
            run.refuses("value of TEXT " + t + ", what", twin -> twin.value(t, 0, 8), Bench.ARGUMENT);
        }
        for (int what : new int[] {-1, 8, 9, 256, Integer.MIN_VALUE, Integer.MAX_VALUE}) {
            run.refuses("value, what " + what, twin -> twin.value(0, 0, what), Bench.ARGUMENT);
            run.refuses("value, no VALUE, what " + what, twin -> twin.value(0, 7, what), Bench.ARGUMENT);
            Run.NEW.refuses("value, no TEXT, what " + what, twin -> twin.value(0, 0, what), Bench.ARGUMENT);
        }
        for (int v : new int[] {-1, 7, 8, 999, 1000, Integer.MIN_VALUE, Integer.MAX_VALUE}) {
            for (int what = 0; what < 8; what++) {
                int fact = what;
                run.refuses("value " + v + ", what " + what, twin -> twin.value(0, v, fact), Bench.INDEX);
            }
        }
        run.takes("the first VALUE", twin -> twin.value(0, 0, 7), -1);
        run.takes("the last VALUE", twin -> twin.value(0, 6, 0), JsonTwin.NULL);
        run.refuses("behind the last VALUE of TEXT 1", twin -> twin.value(1, 2, 0), Bench.INDEX);
        // VALUES that were there before are no more.
        Run less = run.read(0, "[1]").feed("[5]");
        less.takes("the last VALUE of fewer", twin -> twin.value(0, 1, 0), JsonTwin.NUMBER);
        less.refuses("a VALUE that was there before", twin -> twin.value(0, 2, 0), Bench.INDEX);
    }

    /** Promise 6: "Character or DIGIT (0 to 9) k of a VALUE." */
    private static void checkLetters() {
        Run run = Run.NEW.read(1, "{\"\\u0000" + Bench.utf8("z\uDBFF\uDFFF") + "\":-0.9870,\"\":10}");
        int[] characters = {0, 'z', 0x10FFFF};
        for (int k = 0; k < characters.length; k++) {
            int place = k;
            run.takes("character " + k, twin -> twin.letter(1, 1, place), characters[k]);
            run.takes("DIGIT " + k, twin -> twin.letter(1, 2, place), 9 - k);
        }
        run.takes("the DIGIT of 10", twin -> twin.letter(1, 4, 0), 1);
        Run digits = Run.NEW.read(0, "1234567890123");
        for (int k = 0; k < 13; k++) {
            int place = k;
            digits.takes("DIGIT " + k, twin -> twin.letter(0, 0, place), (k + 1) % 10);
        }
        Run most = Run.NEW.read(0, "[\"" + "a".repeat(3998) + "yz\"," + "7".repeat(59) + "8]");
        most.takes("character 0", twin -> twin.letter(0, 1, 0), (int) 'a');
        most.takes("character 3,999", twin -> twin.letter(0, 1, 3999), (int) 'z');
        most.takes("character 4,000", twin -> twin.letter(0, 1, 4000), Bench.INDEX);
        most.takes("DIGIT 59", twin -> twin.letter(0, 2, 59), 8);
        most.takes("DIGIT 60", twin -> twin.letter(0, 2, 60), Bench.INDEX);
    }

    /** Promise 6: "IllegalArgumentException: t. IndexOutOfBoundsException: there is none." */
    private static void checkLetterRefuses() {
        Run run = Run.NEW.read(0, "[\"xy\",25,\"\",0,null,false,true,[1],{\"a\":2}]").read(1, "\"z\"").write(0, 0).feed("[5]");
        for (int t : NO_TEXTS) {
            run.refuses("letter of TEXT " + t, twin -> twin.letter(t, 1, 0), Bench.ARGUMENT);
            run.refuses("letter of TEXT " + t + ", no VALUE", twin -> twin.letter(t, -1, 0), Bench.ARGUMENT);
            run.refuses("letter of TEXT " + t + ", no letter", twin -> twin.letter(t, 1, 2), Bench.ARGUMENT);
        }
        for (int v : new int[] {-1, 13, 1000, Integer.MIN_VALUE, Integer.MAX_VALUE}) {
            run.refuses("letter of VALUE " + v, twin -> twin.letter(0, v, 0), Bench.INDEX);
        }
        for (int k : new int[] {-1, 2, 3, 8192, Integer.MIN_VALUE, Integer.MAX_VALUE}) {
            run.refuses("letter " + k + " of a STRING", twin -> twin.letter(0, 1, k), Bench.INDEX);
            run.refuses("letter " + k + " of a NUMBER", twin -> twin.letter(0, 2, k), Bench.INDEX);
        }
        run.takes("the last letter of a STRING", twin -> twin.letter(0, 1, 1), (int) 'y');
        run.takes("the last letter of a NUMBER", twin -> twin.letter(0, 2, 1), 5);
        // The ARRAY itself, those of no letter, the ARRAY and the OBJECT with one part.
        for (int v : new int[] {0, 3, 4, 5, 6, 7, 8, 10}) {
            run.refuses("letter 0 of VALUE " + v, twin -> twin.letter(0, v, 0), Bench.INDEX);
        }
        run.takes("letter 0 of the NAME", twin -> twin.letter(0, 11, 0), (int) 'a');
        run.refuses("letter 1 of the NAME", twin -> twin.letter(0, 11, 1), Bench.INDEX);
        run.read(1, "x").feed("[5]").refuses("letter of no TEXT", twin -> twin.letter(1, 0, 0), Bench.INDEX);
    }

    /** Promise 12: "What 0, 1: VALUES of TEXT 0, 1 (0 if there is none); 2: octets that are fed; 3: those that were WRITTEN." */
    private static void checkCount() {
        counts(Run.NEW, 0, 0, 0, 0);
        counts(Run.NEW.read(0, "1"), 1, 0, 0, 0);
        counts(Run.NEW.read(1, "[1,{\"a\":2}]"), 0, 5, 0, 0);
        counts(BOTH, 7, 2, 0, 28);
        counts(BOTH.feed("x"), 7, 2, 20, 28);
        counts(BOTH.feed("x".repeat(21)), 7, 2, 40, 28);
        counts(BOTH.read(0, "x"), 0, 2, 0, 28);
        counts(BOTH.read(1, ""), 7, 0, 0, 28);
        counts(BOTH.write(1, 0), 7, 2, 0, 6);
        counts(BOTH.write(0, 9), 7, 2, 0, 28);
        counts(BOTH.feed("/").then(twin -> twin.pointer(0, 1)), 7, 2, 0, 28);
        String inner = "[" + Reading.list("1", 60) + "]";
        counts(Run.NEW.read(0, "[" + Reading.list(inner, 16) + "," + Reading.list("1", 23) + "]"), 1000, 0, 0, 0);
        counts(Run.NEW.feed("x".repeat(8200)), 0, 0, 8200, 0);
        counts(Run.NEW.read(0, "\"" + "\\n".repeat(4000) + "\"").write(0, 0), 1, 0, 0, 24002);
    }

    private static void counts(Run run, int first, int second, int fed, int written) {
        run.takes("count 0", twin -> twin.count(0), first);
        run.takes("count 1", twin -> twin.count(1), second);
        run.takes("count 2", twin -> twin.count(2), fed);
        run.takes("count 3", twin -> twin.count(3), written);
    }

    /** Promise 12: "IllegalArgumentException for others." */
    private static void checkCountRefuses() {
        for (int what : new int[] {-1, 4, 5, 256, Integer.MIN_VALUE, Integer.MAX_VALUE}) {
            Run.NEW.refuses("count " + what + " of a new object", twin -> twin.count(what), Bench.ARGUMENT);
            BOTH.feed("[5]").refuses("count " + what, twin -> twin.count(what), Bench.ARGUMENT);
        }
    }

    /** What only answers changes nothing either. */
    private static void checkAnswersChangeNothing() {
        Run run = BOTH.feed("[5]");
        Run.Step[] answers = {Counted::wrong, twin -> twin.value(0, 3, 4), twin -> twin.letter(0, 1, 0), twin -> twin.count(0), twin -> twin.count(3)};
        for (int i = 0; i < answers.length; i++) {
            Bench.due("state behind answer " + i, run.then(answers[i]).state(), run.state());
        }
    }

    /** "An object is used for at most 512 calls after it has been made" */
    private static void checkManyCalls() {
        Run run = Run.NEW.read(0, "{\"a\":[1,\"\\ud83d\\ude00\"]}");
        for (int i = 0; i < 500; i++) {
            run = i % 5 == 0 ? run.feed("/a/1") : run.then(i % 5 == 1 ? twin -> twin.pointer(0, 4) : twin -> twin.write(0, 0));
        }
        // These were 503 calls: two feeds and one read stand before the 500.
        for (int i = 0; i < 8; i++) {
            run = run.takes("call " + (504 + i), twin -> twin.letter(0, 4, 0), 0x1F600);
        }
        run.takes("the 512th call", twin -> twin.octets(1), 0x22F09F9880225D7DL);
        Run wrong = Run.NEW;
        for (int i = 0; i < 255; i++) {
            wrong = wrong.read(i % 2, "x");
        }
        wrong.feed("[1]").takes("the 512th call, behind WRONG reads", twin -> twin.read(1, 3), 2);
    }
}
