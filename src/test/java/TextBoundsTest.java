/** The boundary cases of the first term but for NUMBERS and STRINGS; a method for each sentence, which stands above it. */
public final class TextBoundsTest {
    private static final String INNER = "[" + Reading.list("1", 60) + "]";
    // Itself, 16 ARRAYS of 61 VALUES each, and 21 more: 998 VALUES.
    private static final String ALMOST_FULL = "[" + Reading.list(INNER, 16) + "," + Reading.list("1", 21);

    public static void main(String[] args) {
        checkOctets();
        checkBlanks();
        checkBlanksInTokens();
        checkWords();
        checkOtherBeginnings();
        checkArrays();
        checkObjects();
        checkPartsOfArrays();
        checkPartsOfObjects();
        checkDepth();
        checkNames();
        checkFirstFault();
        checkEnd();
        checkValues();
        checkNumbering();
        Bench.end();
    }

    /** "A TEXT: octets, up to 8,192" */
    private static void checkOctets() {
        Reading.taken("0", 1);
        Reading.taken(" ".repeat(8191) + "0", 1);
        Reading.taken("[" + " ".repeat(8190) + "]", 1);
        Reading.refused(" ".repeat(8192), 8192);
        Reading.refused("[" + " ".repeat(8191), 8192);
        Run full = Run.NEW.feed("0" + " ".repeat(8199));
        full.refuses("read of 8,193 octets", twin -> twin.read(0, 8193), Bench.INDEX);
        full.takes("read of 8,192 octets", twin -> twin.read(0, 8192), 1);
    }

    /** "blanks (32, 9, 10, 13) around TOKENS" */
    private static void checkBlanks() {
        for (int octet = 0; octet < 256; octet++) {
            char c = (char) octet;
            if (octet == 32 || octet == 9 || octet == 10 || octet == 13) {
                Reading.taken("[1]" + c, 2);
                Reading.taken(c + "[" + c + "1" + c + "," + c + "{" + c + "\"a\"" + c + ":" + c + "null" + c + "}" + c + "]" + c, 5);
                Reading.taken(c + "[" + c + "]" + c, 1);
                Reading.taken(c + "{" + c + "}" + c, 1);
            } else {
                Reading.refused("[1]" + c, 3);
            }
        }
        for (char c : new char[] {0, 8, 11, 12, 14, 31, 33, '_', 127, 0x85, 0xA0, 0xFF}) {
            Reading.refused(c + "1", 0);
            Reading.refused("[" + c + "1]", 1);
            Reading.refused("[1" + c + ",2]", 2);
            Reading.refused("[1," + c + "2]", 3);
            Reading.refused("{" + c + "\"a\":1}", 1);
            Reading.refused("{\"a\"" + c + ":1}", 4);
            Reading.refused("{\"a\":" + c + "1}", 5);
            Reading.refused("{\"a\":1" + c + "}", 6);
        }
    }

    /** The same sentence: blanks stand around TOKENS, not in them. */
    private static void checkBlanksInTokens() {
        Reading.refused("nu ll", 2);
        Reading.refused("1 2", 2);
        Reading.refused("- 1", 1);
        Reading.refused("1 .5", 2);
        Reading.refused("1. 5", 2);
        Reading.refused("1 e5", 2);
        Reading.refused("1e 5", 2);
        Reading.refused("1e+ 5", 3);
        Reading.refused("\"\\ n\"", 2);
        Reading.refused("\"\\u 041\"", 3);
        Reading.refused("\"\\ud800 \\udc00\"", 1);
    }

    /** "A VALUE: null, true, false" */
    private static void checkWords() {
        for (String word : new String[] {"null", "true", "false"}) {
            Reading.taken(word, 1);
            Reading.refused(word + "x", word.length());
            Reading.refused(word + word, word.length());
            for (int i = 0; i < word.length(); i++) {
                String begun = word.substring(0, i);
                Reading.refused(begun, i);
                Reading.refused(begun + Character.toUpperCase(word.charAt(i)) + word.substring(i + 1), i);
                Reading.refused("[1," + begun + "]", i + 3);
            }
        }
    }

    /** The same sentence: nothing else begins a VALUE. */
    private static void checkOtherBeginnings() {
        String beginnings = "ntf-0123456789\"[{ \t\n\r";
        for (int octet = 0; octet < 256; octet++) {
            if (beginnings.indexOf(octet) < 0) {
                Reading.refused((char) octet + "1", 0);
                Reading.refused("[1," + (char) octet + "]", 3);
                Reading.refused("{\"a\":" + (char) octet + "}", 5);
            }
        }
    }

    /** "an ARRAY "[" VALUES with "," between "]"" */
    private static void checkArrays() {
        Reading.taken("[]", 1);
        Reading.taken("[1]", 2);
        Reading.taken("[1,2]", 3);
        Reading.taken("[[],[[]]]", 4);
        Reading.refused("[,]", 1);
        Reading.refused("[,1]", 1);
        Reading.refused("[1,]", 3);
        Reading.refused("[1,,2]", 3);
        Reading.refused("[1 2]", 3);
        Reading.refused("[1;2]", 2);
        Reading.refused("[1}", 2);
        Reading.refused("[\"a\":1]", 4);
        Reading.refused("[1]]", 3);
        Reading.refused("[1][2]", 3);
        Reading.refused("[1],", 3);
    }

    /** "an OBJECT "{" MEMBERS with "," between "}", each a STRING (its NAME), ":", a VALUE" */
    private static void checkObjects() {
        Reading.taken("{}", 1);
        Reading.taken("{\"\":{}}", 3);
        Reading.taken("{\"a\":1,\"b\":2}", 5);
        Reading.refused("{,}", 1);
        Reading.refused("{]", 1);
        Reading.refused("{1:2}", 1);
        Reading.refused("{null:2}", 1);
        Reading.refused("{[]:2}", 1);
        Reading.refused("{\"a\"}", 4);
        Reading.refused("{\"a\",\"b\"}", 4);
        Reading.refused("{\"a\"::1}", 5);
        Reading.refused("{\"a\":}", 5);
        Reading.refused("{\"a\":,\"b\":1}", 5);
        Reading.refused("{\"a\":1,}", 7);
        Reading.refused("{\"a\":1,,\"b\":2}", 7);
        Reading.refused("{\"a\":1 \"b\":2}", 7);
        Reading.refused("{\"a\":1:2}", 6);
        Reading.refused("{\"a\":1]", 6);
        Reading.refused("{\"a\":1}}", 7);
    }

    /** "at most 60 parts in one (the next one is WRONG where it begins)": of an ARRAY */
    private static void checkPartsOfArrays() {
        String sixty = "[" + Reading.list("1", 60);
        Run run = Reading.taken(sixty + "]", 61);
        run.takes("parts of the full ARRAY", twin -> twin.value(1, 0, 3), 60);
        run.takes("the 60th part has no next one", twin -> twin.value(1, 60, 7), -1);
        Reading.refused(sixty + ",1]", 121);
        Reading.refused(sixty + " , \n2]", 124);
        for (String next : new String[] {"null", "\"a\"", "[]", "{}", "x", "]", ""}) {
            Reading.refused(sixty + "," + next, 121);
        }
        Reading.taken("[" + Reading.list(INNER, 16) + "]", 977);
        Reading.refused("[1,[2," + sixty + ",1]]]", 127);
        Reading.taken("{\"a\":" + INNER + ",\"b\":" + INNER + "}", 125);
        Reading.refused("{\"a\":" + sixty + ",1]}", 126);
    }

    /** The same sentence, of an OBJECT: its parts are its MEMBERS. */
    private static void checkPartsOfObjects() {
        String sixty = "{" + Reading.members(60);
        int behind = sixty.length() + 1;
        Run run = Reading.taken(sixty + "}", 121);
        run.takes("parts of the full OBJECT", twin -> twin.value(1, 0, 3), 60);
        run.takes("the 60th NAME has no next one", twin -> twin.value(1, 119, 7), -1);
        Reading.refused(sixty + ",\"x\":1}", behind);
        Reading.refused(sixty + ", \"x\":1}", behind + 1);
        Reading.refused(sixty + ",\"0\":1}", behind);
        Reading.refused(sixty + ",}", behind);
        Reading.refused(sixty + ",", behind);
        Reading.taken("[" + sixty + "}," + sixty + "}]", 243);
        Reading.refused("[" + sixty + ",\"x\":1}]", behind + 1);
    }

    /** "40 ARRAYS and OBJECTS in one another (the next one is WRONG)" */
    private static void checkDepth() {
        Reading.taken("[".repeat(40) + "]".repeat(40), 40);
        Reading.taken("[".repeat(40) + "1,null,\"a\"" + "]".repeat(40), 43);
        Reading.refused("[".repeat(41) + "]".repeat(41), 40);
        Reading.refused("[".repeat(40) + "{}" + "]".repeat(40), 40);
        Reading.refused("[".repeat(40) + "1, []" + "]".repeat(40), 43);
        Reading.refused("[".repeat(8192), 40);
        String objects = "{\"a\":".repeat(40);
        Reading.taken(objects + "1" + "}".repeat(40), 81);
        Reading.taken("{\"a\":".repeat(39) + "{}" + "}".repeat(39), 79);
        Reading.refused(objects + "{}" + "}".repeat(40), 200);
        Reading.refused(objects + " []" + "}".repeat(40), 201);
        Reading.taken("[{\"a\":".repeat(20) + "1" + "}]".repeat(20), 61);
        Reading.refused("[{\"a\":".repeat(20) + "[1]" + "}]".repeat(20), 120);
        String deep = "[".repeat(39) + "]".repeat(39);
        Reading.taken("[" + deep + "," + deep + "," + deep + "]", 118);
        Reading.refused("[" + deep + ",[" + deep + "]]", 80 + 39);
    }

    /** "A NAME that is there in its OBJECT is WRONG (where it begins)." */
    private static void checkNames() {
        Reading.taken("{\"a\":1,\"b\":1,\"A\":1,\"aa\":1,\"\":1,\"ab\":1}", 13);
        Reading.refused("{\"a\":1,\"a\":1}", 7);
        Reading.refused("{\"a\":1,\n \"a\":1}", 9);
        Reading.refused("{\"\":1,\"\":2}", 6);
        Reading.refused("{\"a\":1,\"\\u0061\":1}", 7);
        Reading.refused("{\"\\/\":1,\"/\":1}", 8);
        Reading.refused("{\"" + Bench.utf8("\uD83D\uDE00") + "\":1,\"\\ud83d\\ude00\":1}", 10);
        Reading.refused("{\"c\":1,\"b\":1,\"a\":1,\"c\":1}", 19);
        Reading.refused("{\"a\":1,\"b\":1,\"c\":1,\"b\":1}", 19);
        String almost = "{" + Reading.members(59);
        for (int i = 0; i < 59; i++) {
            Reading.refused(almost + ",\"" + i + "\":1}", almost.length() + 1);
        }
        String name = "n".repeat(1999);
        Reading.taken("{\"" + name + "a\":1,\"" + name + "b\":1}", 5);
        Reading.refused("{\"" + name + "a\":1,\"" + name + "a\":1}", 2006);
        // In its OBJECT: not in one around it, inside it or beside it, nor among VALUES.
        Reading.taken("{\"a\":{\"a\":{\"a\":\"a\"}},\"b\":\"a\"}", 9);
        Reading.taken("[{\"a\":1},{\"a\":1},\"a\",\"a\"]", 9);
        Reading.refused("{\"a\":{\"b\":1},\"b\":{\"c\":1},\"a\":1}", 25);
        // It is known when the NAME has ended; what is WRONG behind it comes later.
        Reading.refused("{\"a\":1,\"a\"", 7);
        Reading.refused("{\"a\":1,\"a\"x", 7);
        Reading.refused("{\"a\":1,\"a", 9);
        Reading.refused("{\"a\":1,\"a\n\":1}", 9);
    }

    /** "WRONG is the first octet that can not stand where it is" */
    private static void checkFirstFault() {
        Reading.refused("[nul,tru,]", 4);
        Reading.refused("[1,nul,tru]", 6);
        Reading.refused("{\"a\":01,\"a\":1}", 6);
        Reading.refused("[\"\\x\",\"\\y\"]", 3);
        Reading.refused("x y", 0);
        Reading.refused("[1]x]", 3);
    }

    /** "(the end: how many octets": what is cut off somewhere is WRONG at its end */
    private static void checkEnd() {
        Reading.refused("", 0);
        String text = " {\"a\" : [ -1.5e+3 , \"b\\n\\u0041\" , true ] , \"c\" : { } , \"d\" : [ null , false , [ 0 ] ] }";
        Reading.taken(text, 14);
        for (int n = 0; n < text.length(); n++) {
            Reading.refused(text.substring(0, n), n);
        }
    }

    /** "VALUES, NAMES too, are numbered as they begin; at most 1,000 (the next one is WRONG)." */
    private static void checkValues() {
        int behind = ALMOST_FULL.length() + 1;
        Run run = Reading.taken(ALMOST_FULL + ",2,3]", 1000);
        run.takes("the last VALUE", twin -> twin.letter(1, 999, 0), 3);
        run.takes("behind the last VALUE", twin -> twin.value(1, 1000, 0), Bench.INDEX);
        for (String next : new String[] {"4", "null", "true", "false", "\"a\"", "[]", "{}"}) {
            Reading.refused(ALMOST_FULL + ",2,3," + next + "]", behind + 4);
        }
        Reading.refused(ALMOST_FULL + ",2,3 , 4]", behind + 6);
        Reading.taken(ALMOST_FULL + ",2,[]]", 1000);
        Reading.taken(ALMOST_FULL + ",2,{}]", 1000);
        Reading.refused(ALMOST_FULL + ",2,[4]]", behind + 3);
        Reading.refused(ALMOST_FULL + ",2,{\"a\":1}]", behind + 3);
        Reading.refused(ALMOST_FULL + ",{\"a\":1}]", behind + 5);
        Reading.refused(ALMOST_FULL + ",{\"a\"]", behind + 4);
        // One VALUE less before it: the OBJECT, its NAME and the NAME'S VALUE are the last three.
        String less = "[" + Reading.list(INNER, 16) + "," + Reading.list("1", 20);
        Reading.taken(less + ",{\"a\":1}]", 1000);
        Reading.refused(less + ",{\"a\":1,\"b\":2}]", less.length() + 8);
        Reading.refused(less + ",{\"a\":1},2]", less.length() + 9);
    }

    /** "VALUES, NAMES too, are numbered as they begin" */
    private static void checkNumbering() {
        Run run = Reading.taken("[[10],{\"b\":{\"c\":[]},\"a\":20},30]", 11);
        int[] begins = {0, 1, 2, 6, 7, 11, 12, 16, 20, 24, 28};
        for (int v = 0; v < begins.length; v++) {
            int value = v;
            run.takes("where VALUE " + v + " begins", twin -> twin.value(1, value, 1), begins[v]);
        }
    }
}
