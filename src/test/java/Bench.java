import java.nio.charset.StandardCharsets;

/** A JsonTwin that is fed with texts, and a tally of answers that are not as due. Octets are the chars 0 to 255 of a String. */
final class Bench {
    interface Call {
        Object answer();
    }

    private static int failures = 0;

    final Counted twin = new Counted();

    /** A new one that has read the text as TEXT 0. */
    static Bench of(String text) {
        Bench bench = new Bench();
        due("read of " + text, bench.read(0, text) >= 0, true);
        return bench;
    }

    /** A new one that has read both texts. */
    static Bench of(String text, String second) {
        Bench bench = of(text);
        due("read of " + second, bench.read(1, second) >= 0, true);
        return bench;
    }

    static String utf8(String characters) {
        return new String(characters.getBytes(StandardCharsets.UTF_8), StandardCharsets.ISO_8859_1);
    }

    void feed(String octets) {
        twin.feed(octets);
    }

    /** How many VALUES, or -1 if it is WRONG. */
    int read(int t, String octets) {
        feed(octets);
        try {
            return twin.read(t, octets.length());
        } catch (IllegalArgumentException e) {
            return -1;
        }
    }

    int pointer(int t, String octets) {
        feed(octets);
        return twin.pointer(t, octets.length());
    }

    String write(int t, int v) {
        int size = twin.write(t, v);
        StringBuilder written = new StringBuilder();
        for (int k = 0; k < (size + 7) / 8; k++) {
            long eight = twin.octets(k);
            for (int shift = 56; shift >= 0; shift -= 8) {
                written.append((char) (eight >> shift & 255));
            }
        }
        for (int i = size; i < written.length(); i++) {
            due("octet behind the end", (int) written.charAt(i), 0);
        }
        written.setLength(size);
        return written.toString();
    }

    static String answerOf(Call call) {
        try {
            return String.valueOf(call.answer());
        } catch (RuntimeException e) {
            return "throws." + e.getClass().getSimpleName();
        }
    }

    static void due(String what, Object got, Object want) {
        if (!want.equals(got)) {
            failures++;
            System.out.println(what + " answered " + got + ", due is " + want);
        }
    }

    static void due(String what, Call call, String want) {
        due(what, answerOf(call), want);
    }

    /** Ends the test with exit code 1 if an answer was not as due. */
    static void end() {
        System.out.println(failures == 0 ? "all answers are as due" : failures + " answers are not as due");
        if (failures != 0) {
            System.exit(1);
        }
    }

    static final String INDEX = "throws.IndexOutOfBoundsException";
    static final String ARGUMENT = "throws.IllegalArgumentException";
    static final String UNSUPPORTED = "throws.UnsupportedOperationException";
}
