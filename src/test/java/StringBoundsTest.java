/** The boundary cases of a STRING in the first term; a method for each sentence, which stands above it. */
public final class StringBoundsTest {
    private static final int WRONG = -1;

    private Counted twin = new Counted();

    public static void main(String[] args) {
        StringBoundsTest test = new StringBoundsTest();
        checkQuotes();
        test.checkPlainOctets();
        test.checkTwoOctets();
        test.checkThreeAndFourOctets();
        test.checkCharacters();
        checkEdgesOfUtf8();
        checkCutOffUtf8();
        test.checkEscapes();
        test.checkHexadecimalDigits();
        test.checkUnits();
        test.checkPairs();
        checkFaultsOfPairs();
        checkMostCharacters();
        checkMostCharactersInAll();
        checkOneMore();
        Bench.end();
    }

    /** The one character that a STRING has when these octets stand in it, or WRONG; what wrong answers goes along. */
    private String read(String octets) {
        // No text here is longer than the twenty octets of one feed.
        if (twin.callsLeft() < 4) {
            twin = new Counted();
        }
        String text = "\"" + octets + "\"";
        twin.feed(text);
        String answer = Bench.answerOf(() -> twin.read(0, text.length()));
        if (!answer.equals("1")) {
            return answer + " at " + twin.wrong();
        }
        return twin.value(0, 0, 3) + " character " + twin.letter(0, 0, 0);
    }

    private void character(String octets, int due, int where) {
        String answer = due == WRONG ? Bench.ARGUMENT + " at " + where : "1 character " + due;
        Bench.due("read of a STRING with " + octets.chars().boxed().toList(), read(octets), answer);
    }

    /** "STRING: in 34" */
    private static void checkQuotes() {
        Reading.taken("\"\"", 1);
        Reading.taken("\"a\"", 1);
        Reading.refused("\"", 1);
        Reading.refused("\"a", 2);
        Reading.refused("\"a\\\"", 4);
        Reading.refused("\"a\"\"", 3);
        Reading.refused("\"a\"b\"", 3);
        Reading.refused("a\"", 0);
        Reading.refused("'a'", 0);
        Reading.refused("{\"a:1}", 6);
        Reading.refused("{'a':1}", 1);
    }

    /** "characters in UTF-8 ... but below 32, 34, 92" */
    private void checkPlainOctets() {
        for (int octet = 0; octet < 32; octet++) {
            character(String.valueOf((char) octet), WRONG, 1);
            character("a" + (char) octet, WRONG, 2);
        }
        for (int octet = 32; octet < 128; octet++) {
            if (octet != 34 && octet != 92) {
                character(String.valueOf((char) octet), octet, 0);
            }
        }
        for (int octet = 128; octet < 256; octet++) {
            character(String.valueOf((char) octet), WRONG, 1);
        }
        Reading.taken("\" \"", 1);
        Reading.taken("\"\177\"", 1);
        Reading.refused("\"\37\"", 1);
        Reading.refused("\"\0\"", 1);
        Reading.refused("\"ab\n\"", 3);
        Reading.refused("{\"\t\":1}", 2);
    }

    /** The character that these octets are in UTF-8 as the standard's table has it, or WRONG. */
    private static int meant(int... octets) {
        int first = octets[0];
        int least = first == 0xE0 ? 0xA0 : first == 0xF0 ? 0x90 : 0x80;
        int most = first == 0xED ? 0x9F : first == 0xF4 ? 0x8F : 0xBF;
        int width = first >= 0xC2 && first <= 0xDF ? 2 : first >= 0xE0 && first <= 0xEF ? 3 : first >= 0xF0 && first <= 0xF4 ? 4 : 0;
        if (octets.length != width || octets[1] < least || octets[1] > most) {
            return WRONG;
        }
        int character = first & (width == 2 ? 0x1F : width == 3 ? 0x0F : 0x07);
        for (int i = 1; i < width; i++) {
            if (i > 1 && (octets[i] < 0x80 || octets[i] > 0xBF)) {
                return WRONG;
            }
            character = character << 6 | octets[i] & 0x3F;
        }
        return character;
    }

    private static String octets(int... octets) {
        StringBuilder text = new StringBuilder();
        for (int octet : octets) {
            text.append((char) octet);
        }
        return text.toString();
    }

    /** "(shortest, ...; octets that are none: WRONG at the first of the character)": all that begin so, of two octets */
    private void checkTwoOctets() {
        for (int first = 0x80; first < 0x100; first++) {
            for (int second = 0x20; second < 0x100; second++) {
                if (second != 34) {
                    character(octets(first, second), meant(first, second), 1);
                }
            }
        }
    }

    /** The same sentence, and "up to 10FFFF, none of D800 to DFFF": of three and four octets, at the edges of each */
    private void checkThreeAndFourOctets() {
        int[] edges = {0x20, 0x7F, 0x80, 0x8F, 0x90, 0x9F, 0xA0, 0xBF, 0xC0, 0xFF};
        for (int first = 0xE0; first < 0x100; first++) {
            for (int second : edges) {
                for (int third : edges) {
                    character(octets(first, second, third), meant(first, second, third), 1);
                    for (int fourth : edges) {
                        if (first >= 0xF0) {
                            character(octets(first, second, third, fourth), meant(first, second, third, fourth), 1);
                        }
                    }
                }
            }
        }
    }

    private void checkCharacters() {
        for (int c = 128; c <= 0x10FFFF; c += c < 0x10400 || c > 0x10FF00 ? 1 : 61) {
            if (c < 0xD800 || c > 0xDFFF) {
                character(Bench.utf8(Character.toString(c)), c, 0);
            }
        }
    }

    /** The same sentences, the last one taken and the first one refused, with what the calls behind them show */
    private static void checkEdgesOfUtf8() {
        taken("\u00C2\u0080", 0x80);
        refused("\u00C1\u00BF");
        refused("\u00C0\u0080");
        taken("\u00DF\u00BF", 0x7FF);
        refused("\u00E0\u009F\u00BF");
        taken("\u00E0\u00A0\u0080", 0x800);
        taken("\u00ED\u009F\u00BF", 0xD7FF);
        refused("\u00ED\u00A0\u0080");
        refused("\u00ED\u00BF\u00BF");
        taken("\u00EE\u0080\u0080", 0xE000);
        taken("\u00EF\u00BF\u00BF", 0xFFFF);
        refused("\u00F0\u008F\u00BF\u00BF");
        taken("\u00F0\u0090\u0080\u0080", 0x10000);
        taken("\u00F4\u008F\u00BF\u00BF", 0x10FFFF);
        refused("\u00F4\u0090\u0080\u0080");
        refused("\u00F5\u0080\u0080\u0080");
        refused("\u00F8\u0088\u0080\u0080\u0080");
        refused("\u00FF");
        refused("\u0080");
        refused("\u00BF");
        refused("\u00ED\u00A0\u0080\u00ED\u00B0\u0080");
    }

    private static void taken(String octets, int character) {
        Run run = Reading.taken("{\"ab" + octets + "c\":0}", 3);
        run.takes("character " + character, twin -> twin.letter(1, 1, 2), character);
        run.takes("the one behind " + character, twin -> twin.letter(1, 1, 3), (int) 'c');
        Reading.taken("\"" + octets + "\"", 1);
    }

    private static void refused(String octets) {
        Reading.refused("{\"ab" + octets + "c\":0}", 4);
        Reading.refused("\"" + octets + "\"", 1);
        Reading.refused("\"" + octets, 1);
    }

    /** The same sentence: a character that the end of the TEXT, or another octet, cuts off is none. */
    private static void checkCutOffUtf8() {
        for (String whole : new String[] {"\u00C3\u00A9", "\u00E2\u0082\u00AC", "\u00F0\u009F\u0098\u0080"}) {
            for (int n = 1; n < whole.length(); n++) {
                String cut = whole.substring(0, n);
                Reading.refused("\"a" + cut, 2);
                Reading.refused("\"a" + cut + "\"", 2);
                Reading.refused("\"a" + cut + "a\"", 2);
                Reading.refused("\"a" + cut + whole + "\"", 2);
                Reading.refused("\"a" + whole + cut + "\"", 2 + whole.length());
            }
            Reading.refused("\"a" + whole, 2 + whole.length());
            Reading.refused("\"a" + whole + "\u0080\"", 2 + whole.length());
        }
        // Outside of a STRING no octet from 128 on can stand.
        Reading.refused(Bench.utf8("\u00E9"), 0);
        Reading.refused(Bench.utf8("[1\u00A0]"), 2);
        Reading.refused(Bench.utf8("\uFEFF1"), 0);
    }

    /** "92 with 34, 92, /, b (8), f (12), n (10), r (13), t (9), u" */
    private void checkEscapes() {
        String marks = "\"\\/bfnrt";
        int[] characters = {34, 92, '/', 8, 12, 10, 13, 9};
        for (int octet = 0; octet < 256; octet++) {
            int mark = marks.indexOf(octet);
            if (octet != 'u') {
                character("\\" + (char) octet, mark < 0 ? WRONG : characters[mark], 2);
            }
        }
        Reading.refused("\"\\", 2);
        Reading.refused("\"\\\"", 3);
        Reading.refused("\"\\B\"", 2);
        Reading.refused("\"\\a\"", 2);
        Reading.refused("\"\\0\"", 2);
        Reading.refused("\"\\'\"", 2);
        Reading.refused("\"\\U0041\"", 2);
        Reading.refused("{\"a\\x\":1}", 4);
        Reading.refused("\\n", 0);
    }

    /** "u and four hexadecimal digits" */
    private void checkHexadecimalDigits() {
        String digits = "0123456789abcdefABCDEF";
        for (int octet = 0; octet < 256; octet++) {
            int place = digits.indexOf(octet);
            int digit = place < 16 ? place : place - 6;
            for (int i = 0; i < 4; i++) {
                String four = "0000".substring(0, i) + (char) octet + "0000".substring(i + 1);
                // D at the front is no half of a pair here: D000.
                character("\\u" + four, place < 0 ? WRONG : digit << 4 * (3 - i), 3 + i);
            }
        }
        for (int n = 0; n < 4; n++) {
            Reading.refused("\"\\u" + "0041".substring(0, n), 3 + n);
            Reading.refused("\"\\u" + "0041".substring(0, n) + "\"", 3 + n);
        }
        Reading.refused("\"\\u0041", 7);
        Reading.taken("\"\\u00411\"", 1).takes("characters", twin -> twin.value(1, 0, 3), 2);
    }

    /** "of D800 to DBFF the next one must be ...; else, and of DC00 to DFFF, WRONG at the first 92": each unit alone */
    private void checkUnits() {
        for (int unit = 0; unit < 0x10000; unit++) {
            boolean half = unit >= 0xD800 && unit <= 0xDFFF;
            character(String.format(unit % 2 == 0 ? "\\u%04x" : "\\u%04X", unit), half ? WRONG : unit, 1);
        }
    }

    /** "the next one must be 92 u and DC00 to DFFF: both are one character (65536 and on)" */
    private void checkPairs() {
        for (int low = 0xDB00; low < 0xE100; low++) {
            boolean paired = low >= 0xDC00 && low <= 0xDFFF;
            for (int high : new int[] {0xD800, 0xD83D, 0xDBFF}) {
                int character = 0x10000 + (high - 0xD800) * 0x400 + low - 0xDC00;
                character(String.format("\\u%04x\\u%04X", high, low), paired ? character : WRONG, 1);
            }
        }
        for (int high = 0xD800; high < 0xDC00; high++) {
            character(String.format("\\u%04X\\udc00", high), 0x10000 + (high - 0xD800) * 0x400, 1);
            character(String.format("\\u%04X\\uDFFF", high), 0x103FF + (high - 0xD800) * 0x400, 1);
            character(String.format("\\u%04X\\uDBFF", high), WRONG, 1);
            character(String.format("\\u%04X\\uE000", high), WRONG, 1);
        }
        for (int low = 0xDC00; low < 0xE000; low++) {
            character(String.format("\\u%04X\\udc00", low), WRONG, 1);
        }
        Run run = Reading.taken("[\"\\ud800\\udc00\",\"\\uDBFF\\uDFFF\",\"\\ud7ff\\ue000\"]", 4);
        run.takes("the first of pairs", twin -> twin.letter(1, 1, 0), 65536);
        run.takes("one character", twin -> twin.value(1, 1, 3), 1);
        run.takes("the last of pairs", twin -> twin.letter(1, 2, 0), 0x10FFFF);
        run.takes("no pair", twin -> twin.value(1, 3, 3), 2);
    }

    /** "else, and of DC00 to DFFF, WRONG at the first 92" */
    private static void checkFaultsOfPairs() {
        for (String high : new String[] {"\\ud800", "\\uDBFF"}) {
            for (String next : new String[] {"", "a", "\\", "\\n", "\\x", "\\u", "\\uz", "\\ud", "\\udc0", "\\udc0g", "\\u0041", "\\ud7ff",
                    "\\ud800", "\\udbff\\udc00", "\\ue000", "udc00", " \\udc00", "\\Udc00", "\u00ED\u00B0\u0080"}) {
                Reading.refused("\"ab" + high + next + "\"", 3);
                Reading.refused("\"ab" + high + next, 3);
            }
            Reading.refused("\"ab" + high + "\\udc00", 15);
        }
        for (String low : new String[] {"\\udc00", "\\uDFFF"}) {
            Reading.refused("\"ab" + low + "\"", 3);
            Reading.refused("\"ab" + low, 3);
            Reading.refused("\"ab" + low + "\\ud800\"", 3);
            Reading.refused("\"ab\\ud800\\udc00" + low + "\"", 15);
        }
        // The digits of the first are looked at before what it is.
        Reading.refused("\"ab\\ud8", 7);
        Reading.refused("\"ab\\ud80g\\udc00\"", 8);
    }

    /** "At most 4,000 characters in all STRINGS (of one more its first octet is WRONG)." */
    private static void checkMostCharacters() {
        Run run = Reading.taken("\"" + "a".repeat(3999) + "z\"", 1);
        run.takes("characters", twin -> twin.value(1, 0, 3), 4000);
        run.takes("the last one", twin -> twin.letter(1, 0, 3999), (int) 'z');
        run.takes("behind the last one", twin -> twin.letter(1, 0, 4000), Bench.INDEX);
        Reading.refused("\"" + "a".repeat(4001) + "\"", 4001);
        Reading.refused("\"" + "a".repeat(8190) + "\"", 4001);
        Reading.taken("\"" + "\\n".repeat(4000) + "\"", 1);
        Reading.refused("\"" + "\\n".repeat(4001) + "\"", 8001);
        Reading.taken("\"" + "\u00C3\u00A9".repeat(4000) + "\"", 1);
        Reading.refused("\"" + "\u00C3\u00A9".repeat(4001) + "\"", 8001);
        // A pair is one character.
        Reading.taken("\"\\ud83d\\ude00" + "a".repeat(3999) + "\"", 1);
        Reading.refused("\"\\ud83d\\ude00" + "a".repeat(4000) + "\"", 4012);
        // They are counted for each TEXT anew.
        Run twice = Run.NEW.read(0, "\"" + "a".repeat(4000) + "\"").read(0, "\"" + "b".repeat(4000) + "\"");
        twice.takes("characters of the second", twin -> twin.value(0, 0, 3), 4000);
        Run third = twice.read(0, "\"" + "c".repeat(300) + "\"");
        third.takes("characters of the third", twin -> twin.value(0, 0, 3), 300);
        third.takes("the last one of the third", twin -> twin.letter(0, 0, 299), (int) 'c');
    }

    /** The same sentence: in all STRINGS, NAMES too, whatever stands between them */
    private static void checkMostCharactersInAll() {
        String two = "\"" + "a".repeat(2000) + "\"";
        Reading.taken("[" + two + "," + two + "]", 3);
        Reading.taken("[" + two + "," + two + ",\"\",1,\"\"]", 6);
        Reading.refused("[" + two + "," + two + ",\"b\"]", 4008);
        Reading.taken("{" + two + ":" + two + "}", 3);
        Reading.refused("{" + two + ":" + two + ",\"b\":1}", 4008);
        Reading.refused("{" + two + ":\"b" + two.substring(1) + "}", 4005);
        Reading.taken("[" + two + "," + "\"" + "a".repeat(1999) + "\",{\"b\":\"\"}]", 6);
        Reading.refused("[" + two + "," + "\"" + "a".repeat(1999) + "\",{\"b\":\"c\"}]", 4012);
        Reading.taken("[" + two + "," + two + "," + "9".repeat(60) + "]", 4);
    }

    /** The same sentence: the first octet of one more is WRONG, whatever the character is, and if it is none too. */
    private static void checkOneMore() {
        String full = "\"" + "a".repeat(4000);
        for (String next : new String[] {"a", "\\n", "\\u0041", "\\ud83d\\ude00", "\u00C3\u00A9", "\u00F0\u009F\u0098\u0080",
                "\\x", "\\u00g0", "\\udc00", "\\", "\u00FF", "\u00C3", "\n", ""}) {
            Reading.refused(full + next, 4001);
        }
        Reading.refused(full + "\\u0041\"", 4001);
        Reading.refused(full + "\\x\"", 4001);
        Reading.taken(full + "\"", 1);
        Reading.refused(full + "\"a", 4002);
    }
}
