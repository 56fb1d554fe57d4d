import java.util.Collections;

/** What one read shows, and what the calls behind it show, on an object that has two TEXTS and something WRITTEN. */
final class Reading {
    private static final Run BEFORE = Run.NEW.read(0, "[7,\"a\"]").read(1, "{\"k\":-1.5}").write(0, 0);

    private Reading() {
    }

    /** The text is TEXT 1 then; what was fed is nothing, and all else stays. */
    static Run taken(String text, int values) {
        String what = "read of " + shortened(text);
        Run behind = BEFORE.feed(text).takes(what, twin -> twin.read(1, text.length()), values);
        behind.takes("wrong behind the " + what, Counted::wrong, -1);
        behind.takes("VALUES behind the " + what, twin -> twin.count(1), values);
        checkOthers(behind, what);
        return behind;
    }

    /** The text is WRONG there: there is no TEXT 1 then; what was fed is nothing, and all else stays. */
    static void refused(String text, int where) {
        String what = "WRONG read of " + shortened(text);
        Run behind = BEFORE.feed(text).takes(what, twin -> twin.read(1, text.length()), Bench.ARGUMENT);
        behind.takes("wrong behind the " + what, Counted::wrong, where);
        behind.takes("VALUES behind the " + what, twin -> twin.count(1), 0);
        behind.takes("value behind the " + what, twin -> twin.value(1, 0, 0), Bench.INDEX);
        behind.takes("pointer behind the " + what, twin -> twin.pointer(1, 0), Bench.ARGUMENT);
        checkOthers(behind, what);
        Run good = behind.feed("true").takes("read behind the " + what, twin -> twin.read(1, 4), 1);
        good.takes("wrong behind the read behind the " + what, Counted::wrong, -1);
    }

    private static void checkOthers(Run behind, String what) {
        behind.takes("octets fed behind the " + what, twin -> twin.count(2), 0);
        Bench.due("TEXT 0 behind the " + what, behind.text(0), BEFORE.text(0));
        Bench.due("WRITTEN behind the " + what, behind.written(), BEFORE.written());
    }

    private static String shortened(String text) {
        return text.length() <= 80 ? text : text.substring(0, 80) + ".. (" + text.length() + " octets)";
    }

    static String list(String part, int times) {
        return String.join(",", Collections.nCopies(times, part));
    }

    /** So many MEMBERS, with the NAMES 0, 1 and on. */
    static String members(int times) {
        StringBuilder text = new StringBuilder();
        for (int i = 0; i < times; i++) {
            text.append(i == 0 ? "" : ",").append("\"").append(i).append("\":0");
        }
        return text.toString();
    }
}
