/**
 * Two JSON texts, read strictly: their values are looked at, compared, found by pointers and written in one form.
 * Words in capitals are the document's.
 */
public final class JsonTwin {
    public static final int NULL = 0, FALSE = 1, TRUE = 2, NUMBER = 3, STRING = 4, ARRAY = 5, OBJECT = 6;

    private static final int NONE = -1;
    private static final int MOST_FED = 8200;
    private static final int MOST_OCTETS = 8192;
    private static final int MOST_VALUES = 1000;
    private static final int MOST_PARTS = 60;
    private static final int MOST_DEPTH = 40;
    private static final int MOST_DIGITS = 60;
    private static final int MOST_POWER_DIGITS = 3;
    private static final int MOST_INDEX_DIGITS = 3;
    private static final int MOST_CHARACTERS = 4000;
    // Nothing grows more than an escape of two octets, such as 92 n, that is WRITTEN with six.
    private static final int MOST_WRITTEN = 3 * MOST_OCTETS;
    private static final int LAST_FACT = 7;

    private static final int QUOTE = 34;
    private static final int BACKSLASH = 92;
    private static final int FIRST_HIGH = 0xD800;
    private static final int FIRST_LOW = 0xDC00;
    private static final int LAST_LOW = 0xDFFF;

    // Rows of characters, for a text might count as a new one each time that it is used; a write may use thousands.
    private static final char[] NULL_WORD = {'n', 'u', 'l', 'l'};
    private static final char[] FALSE_WORD = {'f', 'a', 'l', 's', 'e'};
    private static final char[] TRUE_WORD = {'t', 'r', 'u', 'e'};
    private static final char[] FRONT_OF_ESCAPED = {'\\', 'u', '0', '0'};

    private final byte[] fed = new byte[MOST_FED];
    private final Text firstText = new Text();
    private final Text secondText = new Text();
    private final Writer writer = new Writer();
    private int fedCount = 0;
    private int fault = NONE;

    public JsonTwin() {
    }

    public int feed(int a, int b, int c, int d, int e) throws IndexOutOfBoundsException {
        if (fedCount + 20 > MOST_FED) {
            throw new IndexOutOfBoundsException();
        }
        feedFour(a);
        feedFour(b);
        feedFour(c);
        feedFour(d);
        feedFour(e);
        return fedCount;
    }

    public int read(int t, int n) throws IndexOutOfBoundsException, IllegalArgumentException {
        if (n < 0 || n > MOST_OCTETS || n > fedCount) {
            throw new IndexOutOfBoundsException();
        }
        Text text = textNumbered(t);
        fedCount = 0;
        fault = new Reader(fed, n, text).take();
        if (fault != NONE) {
            throw new IllegalArgumentException();
        }
        return text.values;
    }

    public int wrong() {
        return fault;
    }

    public int value(int t, int v, int what) throws IllegalArgumentException, IndexOutOfBoundsException {
        if (what < 0 || what > LAST_FACT) {
            throw new IllegalArgumentException();
        }
        Text text = textNumbered(t);
        needValue(text, v);
        return text.fact(v, what);
    }

    public int letter(int t, int v, int k) throws IllegalArgumentException, IndexOutOfBoundsException {
        Text text = textNumbered(t);
        needValue(text, v);
        if (!text.hasLetter(v, k)) {
            throw new IndexOutOfBoundsException();
        }
        return text.letterOf(v, k);
    }

    public boolean same(int t, int v, int u, int w) throws IllegalArgumentException, IndexOutOfBoundsException {
        Text one = textNumbered(t);
        Text other = textNumbered(u);
        needValue(one, v);
        needValue(other, w);
        return Likeness.areTwins(one, v, other, w);
    }

    public int compare(int t, int v, int u, int w)
            throws IllegalArgumentException, IndexOutOfBoundsException, UnsupportedOperationException {
        Text one = textNumbered(t);
        Text other = textNumbered(u);
        needValue(one, v);
        needValue(other, w);
        if (one.kinds[v] != NUMBER || other.kinds[w] != NUMBER) {
            throw new UnsupportedOperationException();
        }
        return Likeness.orderOfNumbers(one, v, other, w);
    }

    public int pointer(int t, int n) throws IndexOutOfBoundsException, IllegalArgumentException {
        if (n < 0 || n > fedCount) {
            throw new IndexOutOfBoundsException();
        }
        Text text = textNumbered(t);
        if (!text.has(0)) {
            throw new IllegalArgumentException();
        }
        fedCount = 0;
        return new Path(fed, n, text).find();
    }

    public int write(int t, int v) throws IllegalArgumentException, IndexOutOfBoundsException {
        Text text = textNumbered(t);
        needValue(text, v);
        return writer.putAll(text, v);
    }

    public long octets(int k) throws IndexOutOfBoundsException {
        if (k < 0 || k >= (writer.size + 7) / 8) {
            throw new IndexOutOfBoundsException();
        }
        return writer.eightFrom(8 * k);
    }

    public int count(int what) throws IllegalArgumentException {
        switch (what) {
            case 0:
                return firstText.values;
            case 1:
                return secondText.values;
            case 2:
                return fedCount;
            case 3:
                return writer.size;
            default:
                throw new IllegalArgumentException();
        }
    }

    private void feedFour(int four) {
        for (int shift = 24; shift >= 0 && fedCount < MOST_FED; shift -= 8) {
            fed[fedCount] = (byte) (four >> shift);
            fedCount++;
        }
    }

    private Text textNumbered(int t) throws IllegalArgumentException {
        if (t != 0 && t != 1) {
            throw new IllegalArgumentException();
        }
        return t == 0 ? firstText : secondText;
    }

    private static void needValue(Text text, int v) throws IndexOutOfBoundsException {
        if (!text.has(v)) {
            throw new IndexOutOfBoundsException();
        }
    }

    /** The VALUES of one TEXT, a row for each fact about them; without VALUES there is no TEXT. */
    private static final class Text {
        final int[] kinds = new int[MOST_VALUES];
        final int[] begins = new int[MOST_VALUES];
        final int[] holders = new int[MOST_VALUES];
        final int[] sizes = new int[MOST_VALUES];
        final int[] exponents = new int[MOST_VALUES];
        final int[] signs = new int[MOST_VALUES];
        final int[] firsts = new int[MOST_VALUES];
        final int[] nexts = new int[MOST_VALUES];
        // Of an OBJECT its lowest NAME, of a NAME the next higher one: kept in order, so that
        // a NAME that is there already, THE SAME and WRITTEN need no search of their own.
        final int[] highers = new int[MOST_VALUES];
        final int[] starts = new int[MOST_VALUES];
        // Characters and DIGITS of all VALUES; each of them takes at least one octet of the TEXT.
        final int[] letters = new int[MOST_OCTETS];
        int letterCount = 0;
        int values = 0;

        void clear() {
            values = 0;
            letterCount = 0;
        }

        boolean isFull() {
            return values >= MOST_VALUES;
        }

        boolean has(int v) {
            return v >= 0 && v < values;
        }

        /** Whoever calls has seen that it is not full. */
        int open(int kind, int at, int holder) {
            int v = values;
            kinds[v] = kind;
            begins[v] = at;
            holders[v] = holder;
            sizes[v] = 0;
            exponents[v] = 0;
            signs[v] = 0;
            firsts[v] = NONE;
            nexts[v] = NONE;
            highers[v] = NONE;
            starts[v] = letterCount;
            values++;
            return v;
        }

        void addLetter(int v, int letter) {
            if (letterCount < letters.length) {
                letters[letterCount] = letter;
                letterCount++;
                sizes[v]++;
            }
        }

        void addDigit(int v, int digit) {
            boolean zeroAtFront = digit == 0 && sizes[v] == 0;
            if (!zeroAtFront) {
                addLetter(v, digit);
            }
        }

        void closeNumber(int v, boolean minus, int exponent) {
            int size = sizes[v];
            while (size > 0 && letters[starts[v] + size - 1] == 0) {
                size--;
            }
            int zeros = sizes[v] - size;
            sizes[v] = size;
            letterCount -= zeros;
            if (size > 0) {
                exponents[v] = exponent + zeros;
                signs[v] = minus ? 1 : 0;
            }
        }

        void addPart(int holder, int last, int part) {
            if (last == NONE) {
                firsts[holder] = part;
            } else {
                nexts[last] = part;
            }
            sizes[holder]++;
        }

        /** False if the OBJECT has the NAME already. */
        boolean placeName(int object, int name) {
            int before = object;
            for (int i = 0; i < MOST_PARTS && highers[before] != NONE; i++) {
                int order = orderOfLetters(highers[before], this, name);
                if (order == 0) {
                    return false;
                }
                if (order > 0) {
                    break;
                }
                before = highers[before];
            }
            highers[name] = highers[before];
            highers[before] = name;
            return true;
        }

        boolean hasLetter(int v, int k) {
            boolean lettered = kinds[v] == STRING || kinds[v] == NUMBER;
            return lettered && k >= 0 && k < sizes[v];
        }

        int letterOf(int v, int k) {
            return letters[starts[v] + k];
        }

        /** The first letter that differs decides; a beginning comes first. */
        int orderOfLetters(int v, Text other, int w) {
            int shared = Math.min(sizes[v], other.sizes[w]);
            for (int k = 0; k < shared; k++) {
                int mine = letterOf(v, k);
                int theirs = other.letterOf(w, k);
                if (mine != theirs) {
                    return mine < theirs ? -1 : 1;
                }
            }
            return Integer.compare(sizes[v], other.sizes[w]);
        }

        int partAt(int array, int index) {
            if (index >= sizes[array]) {
                return NONE;
            }
            int part = firsts[array];
            for (int i = 0; i < index && part != NONE; i++) {
                part = nexts[part];
            }
            return part;
        }

        int fact(int v, int what) {
            switch (what) {
                case 0:
                    return kinds[v];
                case 1:
                    return begins[v];
                case 2:
                    return holders[v];
                case 3:
                    return sizes[v];
                case 4:
                    return exponents[v];
                case 5:
                    return signs[v];
                case 6:
                    return firsts[v];
                default:
                    return nexts[v];
            }
        }
    }

    /** Reads one TEXT, up to its first fault. What takes something answers whether it could stand there. */
    private static final class Reader {
        private final byte[] octets;
        private final int end;
        private final Text text;
        private int at = 0;
        private int fault = NONE;
        private int characters = 0;
        private int power = 0;

        Reader(byte[] octets, int end, Text text) {
            this.octets = octets;
            this.end = end;
            this.text = text;
        }

        /** Where the octets are WRONG, or NONE. */
        int take() {
            text.clear();
            skipBlanks();
            if (takeValue(NONE, 0)) {
                skipBlanks();
                if (at < end) {
                    refuse(at);
                }
            }
            if (fault != NONE) {
                text.clear();
            }
            return fault;
        }

        private boolean refuse(int where) {
            fault = where;
            return false;
        }

        private int octetAt(int where) {
            return where < end ? octets[where] & 255 : NONE;
        }

        private void skipBlanks() {
            while (at < end && isBlank(octets[at])) {
                at++;
            }
        }

        private static boolean isBlank(int octet) {
            return octet == 32 || octet == 9 || octet == 10 || octet == 13;
        }

        private static boolean isDigit(int octet) {
            return octet >= '0' && octet <= '9';
        }

        private static int kindBegunBy(int octet) {
            switch (octet) {
                case 'n':
                    return NULL;
                case 'f':
                    return FALSE;
                case 't':
                    return TRUE;
                case QUOTE:
                    return STRING;
                case '[':
                    return ARRAY;
                case '{':
                    return OBJECT;
                default:
                    return octet == '-' || isDigit(octet) ? NUMBER : NONE;
            }
        }

        private boolean takeValue(int holder, int depth) {
            int kind = kindBegunBy(octetAt(at));
            boolean tooDeep = (kind == ARRAY || kind == OBJECT) && depth >= MOST_DEPTH;
            if (kind == NONE || tooDeep || text.isFull()) {
                return refuse(at);
            }
            int v = text.open(kind, at, holder);
            switch (kind) {
                case NULL:
                    return takeWord(NULL_WORD);
                case FALSE:
                    return takeWord(FALSE_WORD);
                case TRUE:
                    return takeWord(TRUE_WORD);
                case NUMBER:
                    return takeNumber(v);
                case STRING:
                    return takeString(v);
                case ARRAY:
                    return takeParts(v, ']', depth);
                default:
                    return takeParts(v, '}', depth);
            }
        }

        private boolean takeWord(char[] word) {
            for (char letter : word) {
                if (octetAt(at) != letter) {
                    return refuse(at);
                }
                at++;
            }
            return true;
        }

        private boolean takeNumber(int v) {
            int begin = at;
            boolean minus = octetAt(at) == '-';
            if (minus) {
                at++;
            }
            // Behind a 0 at the front no digit can stand.
            int whole = takeDigits(v, octetAt(at) == '0' ? 1 : MOST_DIGITS + 1);
            if (whole == 0) {
                return refuse(at);
            }
            int fraction = 0;
            if (whole <= MOST_DIGITS && octetAt(at) == '.') {
                at++;
                fraction = takeDigits(v, MOST_DIGITS + 1 - whole);
                if (fraction == 0) {
                    return refuse(at);
                }
            }
            if (whole + fraction > MOST_DIGITS) {
                return refuse(begin);
            }
            if (!takePower(begin)) {
                return false;
            }
            text.closeNumber(v, minus, power - fraction);
            return true;
        }

        /** How many digits there are, up to a most of them. */
        private int takeDigits(int v, int most) {
            int taken = 0;
            while (taken < most && isDigit(octetAt(at))) {
                text.addDigit(v, octetAt(at) - '0');
                at++;
                taken++;
            }
            return taken;
        }

        private boolean takePower(int begin) {
            power = 0;
            if (octetAt(at) != 'e' && octetAt(at) != 'E') {
                return true;
            }
            at++;
            boolean minus = octetAt(at) == '-';
            if (minus || octetAt(at) == '+') {
                at++;
            }
            int taken = 0;
            while (taken <= MOST_POWER_DIGITS && isDigit(octetAt(at))) {
                power = 10 * power + octetAt(at) - '0';
                at++;
                taken++;
            }
            if (taken == 0) {
                return refuse(at);
            }
            if (taken > MOST_POWER_DIGITS) {
                return refuse(begin);
            }
            power = minus ? -power : power;
            return true;
        }

        private boolean takeString(int v) {
            at++;
            for (int i = 0; i <= MOST_CHARACTERS; i++) {
                int octet = octetAt(at);
                if (octet == QUOTE) {
                    at++;
                    return true;
                }
                if (octet < 32 || characters >= MOST_CHARACTERS) {
                    return refuse(at);
                }
                boolean taken;
                if (octet != BACKSLASH) {
                    taken = takePlain(v, octet);
                } else {
                    taken = octetAt(at + 1) == 'u' ? takeUnits(v) : takeEscape(v);
                }
                if (!taken) {
                    return false;
                }
                characters++;
            }
            return refuse(at);
        }

        private boolean takePlain(int v, int head) {
            int width = Utf8.widthBegunBy(head);
            int character = Utf8.bitsOfHead(head, width);
            for (int i = 1; i < width; i++) {
                int octet = octetAt(at + i);
                if (octet < 0x80 || octet > 0xBF) {
                    return refuse(at);
                }
                character = (character << 6) | (octet & 0x3F);
            }
            boolean shortest = width > 0 && Utf8.widthOf(character) == width;
            if (!shortest || isSurrogate(character)) {
                return refuse(at);
            }
            text.addLetter(v, character);
            at += width;
            return true;
        }

        private boolean takeEscape(int v) {
            int character = characterEscapedBy(octetAt(at + 1));
            if (character == NONE) {
                return refuse(at + 1);
            }
            text.addLetter(v, character);
            at += 2;
            return true;
        }

        private static int characterEscapedBy(int octet) {
            switch (octet) {
                case QUOTE:
                case BACKSLASH:
                case '/':
                    return octet;
                case 'b':
                    return 8;
                case 'f':
                    return 12;
                case 'n':
                    return 10;
                case 'r':
                    return 13;
                case 't':
                    return 9;
                default:
                    return NONE;
            }
        }

        private boolean takeUnits(int v) {
            int digits = hexDigitsAt(at + 2);
            if (digits < 4) {
                return refuse(at + 2 + digits);
            }
            int unit = unitAt(at + 2);
            if (!isSurrogate(unit)) {
                text.addLetter(v, unit);
                at += 6;
                return true;
            }
            boolean followed = octetAt(at + 6) == BACKSLASH && octetAt(at + 7) == 'u' && hexDigitsAt(at + 8) == 4;
            int low = followed ? unitAt(at + 8) : NONE;
            if (unit >= FIRST_LOW || low < FIRST_LOW || low > LAST_LOW) {
                return refuse(at);
            }
            text.addLetter(v, 0x10000 + ((unit - FIRST_HIGH) << 10) + (low - FIRST_LOW));
            at += 12;
            return true;
        }

        private static boolean isSurrogate(int character) {
            return character >= FIRST_HIGH && character <= LAST_LOW;
        }

        /** How many hexadecimal digits follow one another there, up to four. */
        private int hexDigitsAt(int where) {
            int found = 0;
            while (found < 4 && hexDigit(octetAt(where + found)) != NONE) {
                found++;
            }
            return found;
        }

        private int unitAt(int where) {
            int unit = 0;
            for (int i = 0; i < 4; i++) {
                unit = (unit << 4) | hexDigit(octetAt(where + i));
            }
            return unit;
        }

        private static int hexDigit(int octet) {
            // Not by isDigit: from read to here eight calls stand open already.
            if (octet >= '0' && octet <= '9') {
                return octet - '0';
            }
            if (octet >= 'a' && octet <= 'f') {
                return octet - 'a' + 10;
            }
            return octet >= 'A' && octet <= 'F' ? octet - 'A' + 10 : NONE;
        }

        /** The parts of an ARRAY, or the MEMBERS of an OBJECT, up to the mark that closes it. */
        private boolean takeParts(int v, int close, int depth) {
            at++;
            skipBlanks();
            if (octetAt(at) == close) {
                at++;
                return true;
            }
            int last = NONE;
            for (int i = 0; i < MOST_PARTS; i++) {
                int part = text.values;
                // A MEMBER has no method of its own, so that its characters are not one call deeper.
                boolean taken = close == ']'
                        ? takeValue(v, depth + 1)
                        : openName(v) && takeString(part) && closeName(v, part) && takeNamed(v, part, depth);
                if (!taken) {
                    return false;
                }
                text.addPart(v, last, part);
                last = part;
                skipBlanks();
                int mark = octetAt(at);
                if (mark != close && mark != ',') {
                    return refuse(at);
                }
                at++;
                if (mark == close) {
                    return true;
                }
                skipBlanks();
            }
            return refuse(at);
        }

        private boolean openName(int object) {
            if (octetAt(at) != QUOTE || text.isFull()) {
                return refuse(at);
            }
            text.open(STRING, at, object);
            return true;
        }

        private boolean closeName(int object, int name) {
            return text.placeName(object, name) || refuse(text.begins[name]);
        }

        private boolean takeNamed(int object, int name, int depth) {
            skipBlanks();
            if (octetAt(at) != ':') {
                return refuse(at);
            }
            at++;
            skipBlanks();
            text.firsts[name] = text.values;
            return takeValue(object, depth + 1);
        }
    }

    /** How characters and the octets of UTF-8 belong together. */
    private static final class Utf8 {
        static int widthOf(int character) {
            if (character < 0x80) {
                return 1;
            }
            if (character < 0x800) {
                return 2;
            }
            if (character < 0x10000) {
                return 3;
            }
            return character <= 0x10FFFF ? 4 : 0;
        }

        /** 0 if no character begins so. */
        static int widthBegunBy(int head) {
            if (head < 0x80) {
                return 1;
            }
            if (head < 0xC0) {
                return 0;
            }
            if (head < 0xE0) {
                return 2;
            }
            if (head < 0xF0) {
                return 3;
            }
            return head < 0xF8 ? 4 : 0;
        }

        static int bitsOfHead(int head, int width) {
            return width == 1 ? head : head & (0x7F >> width);
        }

        /** Octet i of a character that takes so many octets. */
        static int octetOf(int character, int width, int i) {
            if (width == 1) {
                return character;
            }
            int bits = character >> 6 * (width - 1 - i);
            return i == 0 ? ((0xF00 >> width) & 0xFF) | bits : 0x80 | (bits & 0x3F);
        }
    }

    /** Whether VALUES are THE SAME, and which NUMBER is less. */
    private static final class Likeness {
        static boolean areTwins(Text one, int v, Text other, int w) {
            return areAlike(one, v, other, w, 0);
        }

        private static boolean areAlike(Text one, int v, Text other, int w, int depth) {
            int kind = one.kinds[v];
            boolean unlike = kind != other.kinds[w] || one.sizes[v] != other.sizes[w];
            if (unlike || depth > MOST_DEPTH) {
                return false;
            }
            switch (kind) {
                case NUMBER:
                    return orderOfNumbers(one, v, other, w) == 0;
                case STRING:
                    return one.orderOfLetters(v, other, w) == 0;
                case ARRAY:
                    return areArraysAlike(one, v, other, w, depth);
                case OBJECT:
                    return areObjectsAlike(one, v, other, w, depth);
                default:
                    return true;
            }
        }

        private static boolean areArraysAlike(Text one, int v, Text other, int w, int depth) {
            int part = one.firsts[v];
            int twin = other.firsts[w];
            for (int i = 0; i < MOST_PARTS && part != NONE && twin != NONE; i++) {
                if (!areAlike(one, part, other, twin, depth + 1)) {
                    return false;
                }
                part = one.nexts[part];
                twin = other.nexts[twin];
            }
            return true;
        }

        private static boolean areObjectsAlike(Text one, int v, Text other, int w, int depth) {
            int name = one.highers[v];
            int twin = other.highers[w];
            for (int i = 0; i < MOST_PARTS && name != NONE && twin != NONE; i++) {
                if (one.orderOfLetters(name, other, twin) != 0) {
                    return false;
                }
                if (!areAlike(one, one.firsts[name], other, other.firsts[twin], depth + 1)) {
                    return false;
                }
                name = one.highers[name];
                twin = other.highers[twin];
            }
            return true;
        }

        static int orderOfNumbers(Text one, int v, Text other, int w) {
            int side = sideOfZero(one, v);
            int otherSide = sideOfZero(other, w);
            if (side != otherSide) {
                return side < otherSide ? -1 : 1;
            }
            // Where the first DIGIT stands tells more than the DIGITS.
            int order = Integer.compare(one.sizes[v] + one.exponents[v], other.sizes[w] + other.exponents[w]);
            if (order == 0) {
                order = one.orderOfLetters(v, other, w);
            }
            return side * order;
        }

        private static int sideOfZero(Text text, int v) {
            if (text.sizes[v] == 0) {
                return 0;
            }
            return text.signs[v] == 1 ? -1 : 1;
        }
    }

    /** Follows one POINTER through a TEXT. */
    private static final class Path {
        private final byte[] octets;
        private final int end;
        private final Text text;

        Path(byte[] octets, int end, Text text) {
            this.octets = octets;
            this.end = end;
            this.text = text;
        }

        int find() {
            int v = 0;
            int at = 0;
            while (at < end && v != NONE) {
                if (octets[at] != '/') {
                    return NONE;
                }
                int from = at + 1;
                at = from;
                while (at < end && octets[at] != '/') {
                    at++;
                }
                v = step(v, from, at);
            }
            return v;
        }

        private int step(int v, int from, int to) {
            if (text.kinds[v] == OBJECT) {
                return stepIntoObject(v, from, to);
            }
            return text.kinds[v] == ARRAY ? stepIntoArray(v, from, to) : NONE;
        }

        private int stepIntoObject(int object, int from, int to) {
            int name = text.firsts[object];
            for (int i = 0; i < MOST_PARTS && name != NONE; i++) {
                if (isName(name, from, to)) {
                    return text.firsts[name];
                }
                name = text.nexts[name];
            }
            return NONE;
        }

        /** The NAME is turned into octets, not the part into characters: so octets that are no UTF-8 find none. */
        private boolean isName(int name, int from, int to) {
            int at = from;
            for (int k = 0; k < text.sizes[name]; k++) {
                int character = text.letterOf(name, k);
                int width = Utf8.widthOf(character);
                for (int i = 0; i < width; i++) {
                    if (meantAt(at, to) != Utf8.octetOf(character, width, i)) {
                        return false;
                    }
                    at += octets[at] == '~' ? 2 : 1;
                }
            }
            return at == to;
        }

        /** The octet that is meant there, NONE at the end of the part or behind a ~ with others. */
        private int meantAt(int at, int to) {
            if (at >= to) {
                return NONE;
            }
            if (octets[at] != '~') {
                return octets[at] & 255;
            }
            int second = at + 1 < to ? octets[at + 1] : NONE;
            if (second == '0') {
                return '~';
            }
            return second == '1' ? '/' : NONE;
        }

        private int stepIntoArray(int array, int from, int to) {
            int digits = to - from;
            if (digits < 1 || digits > MOST_INDEX_DIGITS || digits > 1 && octets[from] == '0') {
                return NONE;
            }
            int index = 0;
            for (int i = from; i < to; i++) {
                if (octets[i] < '0' || octets[i] > '9') {
                    return NONE;
                }
                index = 10 * index + octets[i] - '0';
            }
            return text.partAt(array, index);
        }
    }

    /** What was WRITTEN last. */
    private static final class Writer {
        private final byte[] row = new byte[MOST_WRITTEN];
        int size = 0;

        int putAll(Text text, int v) {
            size = 0;
            putValue(text, v, 0);
            return size;
        }

        long eightFrom(int from) {
            long eight = 0;
            for (int i = from; i < from + 8; i++) {
                int octet = i < size ? row[i] & 255 : 0;
                eight = (eight << 8) | octet;
            }
            return eight;
        }

        private void put(int octet) {
            if (size < row.length) {
                row[size] = (byte) octet;
                size++;
            }
        }

        private void putWord(char[] word) {
            for (char letter : word) {
                put(letter);
            }
        }

        private void putValue(Text text, int v, int depth) {
            if (depth > MOST_DEPTH) {
                return;
            }
            switch (text.kinds[v]) {
                case NULL:
                    putWord(NULL_WORD);
                    break;
                case FALSE:
                    putWord(FALSE_WORD);
                    break;
                case TRUE:
                    putWord(TRUE_WORD);
                    break;
                case NUMBER:
                    putNumber(text, v);
                    break;
                case STRING:
                    putString(text, v);
                    break;
                case ARRAY:
                    putArray(text, v, depth);
                    break;
                default:
                    putObject(text, v, depth);
                    break;
            }
        }

        private void putNumber(Text text, int v) {
            if (text.sizes[v] == 0) {
                put('0');
                return;
            }
            if (text.signs[v] == 1) {
                put('-');
            }
            for (int k = 0; k < text.sizes[v]; k++) {
                put('0' + text.letterOf(v, k));
            }
            if (text.exponents[v] != 0) {
                put('e');
                putExponent(text.exponents[v]);
            }
        }

        private void putExponent(int exponent) {
            int rest = Math.abs(exponent);
            if (exponent < 0) {
                put('-');
            }
            // An EXPONENT has four digits at most: 999 behind the e and 60 before it.
            for (int unit = 1000; unit > 0; unit /= 10) {
                if (rest >= unit) {
                    put('0' + rest / unit % 10);
                }
            }
        }

        private void putString(Text text, int v) {
            put(QUOTE);
            for (int k = 0; k < text.sizes[v]; k++) {
                putCharacter(text.letterOf(v, k));
            }
            put(QUOTE);
        }

        private void putCharacter(int character) {
            if (character < 32) {
                putWord(FRONT_OF_ESCAPED);
                put('0' + (character >> 4));
                put((character & 15) < 10 ? '0' + (character & 15) : 'a' - 10 + (character & 15));
                return;
            }
            if (character == QUOTE || character == BACKSLASH) {
                put(BACKSLASH);
            }
            int width = Utf8.widthOf(character);
            for (int i = 0; i < width; i++) {
                put(Utf8.octetOf(character, width, i));
            }
        }

        private void putArray(Text text, int v, int depth) {
            put('[');
            int part = text.firsts[v];
            for (int i = 0; i < MOST_PARTS && part != NONE; i++) {
                if (i > 0) {
                    put(',');
                }
                putValue(text, part, depth + 1);
                part = text.nexts[part];
            }
            put(']');
        }

        private void putObject(Text text, int v, int depth) {
            put('{');
            int name = text.highers[v];
            for (int i = 0; i < MOST_PARTS && name != NONE; i++) {
                if (i > 0) {
                    put(',');
                }
                putString(text, name);
                put(':');
                putValue(text, text.firsts[name], depth + 1);
                name = text.highers[name];
            }
            put('}');
        }
    }
}
