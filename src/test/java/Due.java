import java.nio.charset.StandardCharsets;
import java.util.stream.LongStream;

/** Counts answers that are not the ones that are due, and helps to make towns and texts. */
final class Due {
    static final int BEYOND = -1000001;
    static final int FULL = -1000002;
    static final int KIND = -1000003;
    static final int NONE = -1000004;
    static final int STATE = -1000005;
    static final int MISSING = -1000006;
    static final int SIZE = -1000007;
    static final int WRONG = -1000100;

    private int asked = 0;
    private int wrong = 0;
    private String sentence = "";

    /** The sentence of the document to which the answers hold that are asked from here on. */
    void says(String words) {
        sentence = "[" + words + "] ";
    }

    void due(String call, long got, long want) {
        asked++;
        if (got != want) {
            wrong++;
            System.out.println(sentence + call + " answered " + got + ", due is " + want);
        }
    }

    /**
     * Ints that are not least to most: those next to them, the ends of int, and such as have the
     * lowest 5, 6, 8 or 16 bits, or all but the sign, of one that is.
     */
    static int[] outside(int least, int most) {
        return LongStream.of(least - 1L, most + 1L, least - 2L, most + 2L, least + 32L, most + 32L, least - 32L,
                least + 64L, least + 256L, most + 256L, least - 256L, least + 65536L, least - 65536L,
                Integer.MIN_VALUE + (long) Math.max(least, 0), Integer.MIN_VALUE, Integer.MIN_VALUE + 1L,
                Integer.MAX_VALUE - 1L, Integer.MAX_VALUE)
            .filter(value -> value == (int) value && (value < least || value > most))
            .mapToInt(value -> (int) value).distinct().toArray();
    }

    /** Prints the outcome, and ends the machine with exit code 1 if an answer was wrong. */
    void end() {
        System.out.println(asked + " answers, " + wrong + " not as due");
        if (wrong != 0 || asked == 0) {
            System.exit(1);
        }
    }

    /** Feeds a text, eight bytes at a time; answers what the last feed() answered. */
    static int feedText(WalkTeller teller, String text) {
        byte[] bytes = text.getBytes(StandardCharsets.ISO_8859_1);
        int answer = 0;
        for (int at = 0; at < bytes.length; at += 8) {
            int count = Math.min(8, bytes.length - at);
            answer = teller.feed(word(bytes, at, count), count);
        }
        return answer;
    }

    static long word(byte[] bytes, int at, int count) {
        long word = 0;
        for (int n = 0; n < count; n++) {
            word |= (bytes[at + n] & 255L) << (8 * n);
        }
        return word;
    }

    static int tell(WalkTeller teller, String text) {
        feedText(teller, text);
        return teller.story();
    }

    /** A town with so many corners in a row, 10 apart, and no ways. */
    static WalkTeller corners(int count) {
        WalkTeller teller = new WalkTeller();
        for (int n = 0; n < count; n++) {
            teller.corner(10 * n, 0);
        }
        return teller;
    }

    /** The same, each corner joined to the next one by a way of length 1 without stairs. */
    static WalkTeller street(int count) {
        WalkTeller teller = corners(count);
        for (int n = 0; n + 1 < count; n++) {
            teller.way(n, n + 1, 1, false);
        }
        return teller;
    }
}
