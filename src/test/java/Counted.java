/** A JsonTwin that refuses a test its 513th call: what such a call answers is free, so no test may lean on it. */
final class Counted {
    static final int MOST_CALLS = 512;

    private final JsonTwin twin = new JsonTwin();
    private int calls = 0;

    int callsLeft() {
        return MOST_CALLS - calls;
    }

    private JsonTwin called() {
        if (calls == MOST_CALLS) {
            throw new AssertionError("the test makes more than 512 calls on one object");
        }
        calls++;
        return twin;
    }

    /** Feeds octets, which are the chars 0 to 255 of a String, and the octets 0 that make the last twenty full. */
    void feed(String octets) {
        for (int i = 0; i < octets.length(); i += 20) {
            feed(four(octets, i), four(octets, i + 4), four(octets, i + 8), four(octets, i + 12), four(octets, i + 16));
        }
    }

    private static int four(String octets, int from) {
        int four = 0;
        for (int i = from; i < from + 4; i++) {
            four = four << 8 | (i < octets.length() ? octets.charAt(i) : 0);
        }
        return four;
    }

    int feed(int a, int b, int c, int d, int e) {
        return called().feed(a, b, c, d, e);
    }

    int read(int t, int n) {
        return called().read(t, n);
    }

    int wrong() {
        return called().wrong();
    }

    int value(int t, int v, int what) {
        return called().value(t, v, what);
    }

    int letter(int t, int v, int k) {
        return called().letter(t, v, k);
    }

    boolean same(int t, int v, int u, int w) {
        return called().same(t, v, u, w);
    }

    int compare(int t, int v, int u, int w) {
        return called().compare(t, v, u, w);
    }

    int pointer(int t, int n) {
        return called().pointer(t, n);
    }

    int write(int t, int v) {
        return called().write(t, v);
    }

    long octets(int k) {
        return called().octets(k);
    }

    int count(int what) {
        return called().count(what);
    }
}
