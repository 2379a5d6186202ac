import java.nio.charset.StandardCharsets;

/** Counts answers that are not the ones that are due, and helps to make towns and texts. */
final class Due {
    static final int BEYOND = -1000001;
    static final int FULL = -1000002;
    static final int KIND = -1000003;
    static final int NONE = -1000004;
    static final int STATE = -1000005;
    static final int MISSING = -1000006;
    static final int SIZE = -1000007;
    static final int WRONG = -1000100;

    private int asked = 0;
    private int wrong = 0;

    void due(String call, long got, long want) {
        asked++;
        if (got != want) {
            wrong++;
            System.out.println(call + " answered " + got + ", due is " + want);
        }
    }

    /** Prints the outcome, and ends the machine with exit code 1 if an answer was wrong. */
    void end() {
        System.out.println(asked + " answers, " + wrong + " not as due");
        if (wrong != 0 || asked == 0) {
            System.exit(1);
        }
    }

    /** Feeds a text, eight bytes at a time; answers what the last feed() answered. */
    static int feedText(WalkTeller teller, String text) {
        byte[] bytes = text.getBytes(StandardCharsets.ISO_8859_1);
        int answer = 0;
        for (int at = 0; at < bytes.length; at += 8) {
            int count = Math.min(8, bytes.length - at);
            answer = teller.feed(word(bytes, at, count), count);
        }
        return answer;
    }

    static long word(byte[] bytes, int at, int count) {
        long word = 0;
        for (int n = 0; n < count; n++) {
            word |= (bytes[at + n] & 255L) << (8 * n);
        }
        return word;
    }

    static int tell(WalkTeller teller, String text) {
        feedText(teller, text);
        return teller.story();
    }

    /** A town with so many corners in a row, 10 apart, and no ways. */
    static WalkTeller corners(int count) {
        WalkTeller teller = new WalkTeller();
        for (int n = 0; n < count; n++) {
            teller.corner(10 * n, 0);
        }
        return teller;
    }

    /** The same, each corner joined to the next one by a way of length 1 without stairs. */
    static WalkTeller street(int count) {
        WalkTeller teller = corners(count);
        for (int n = 0; n + 1 < count; n++) {
            teller.way(n, n + 1, 1, false);
        }
        return teller;
    }
}
