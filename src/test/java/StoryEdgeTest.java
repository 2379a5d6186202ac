/** The edges of the second term and of promises 6 to 9, sentence by sentence. */
public final class StoryEdgeTest {
    private static final Due D = new Due();
    private static final String NEEDS = "abcdefghijkl";

    public static void main(String[] args) {
        countsOfBytes();
        atMost200Bytes();
        anyLong();
        theLowestFirst();
        whatCanStandWhere();
        cornersThatThereAre();
        whereATextMayEnd();
        theFirstWrongByte();
        theFarthestPlaces();
        atMostTwelvePieces();
        atMostFourEditions();
        theTapeIsEmptyThen();
        asKinds();
        asFindings();
        ofAPiece();
        ofFindings();
        D.end();
    }

    private static void countsOfBytes() {
        D.says("Promise 6: how many it has. BEYOND: n is not 1 to 8");
        WalkTeller t = new WalkTeller();
        for (int v : Due.outside(1, 8)) {
            D.due("n " + v, t.feed(0x3B316530L, v), Due.BEYOND);
        }
        D.due("still empty", t.told(5), 0);
        int bytes = 0;
        for (int n = 1; n <= 8; n++) {
            bytes += n;
            D.due("n " + n, t.feed(-1L, n), bytes);
            D.due("bytes", t.told(5), bytes);
        }
    }

    private static WalkTeller fed(int bytes) {
        WalkTeller t = Due.corners(1);
        Due.feedText(t, "x".repeat(bytes));
        return t;
    }

    private static void atMost200Bytes() {
        D.says("Promise 6: FULL: there would be more than 200");
        for (int n = 1; n <= 8; n++) {
            WalkTeller t = fed(200 - n);
            for (int more = n + 1; more <= 8; more++) {
                D.due(more + " behind " + (200 - n), t.feed(0, more), Due.FULL);
                D.due("none of them came", t.told(5), 200 - n);
            }
            D.due(n + " behind " + (200 - n), t.feed(0, n), 200);
            D.due("one more", t.feed(0, 1), Due.FULL);
            D.due("eight more", t.feed(0, 8), Due.FULL);
            D.due("bytes", t.told(5), 200);
        }
        D.says("Promise 6: BEYOND is asked ahead of FULL");
        for (int v : Due.outside(1, 8)) {
            D.due("n " + v, fed(200).feed(0, v), Due.BEYOND);
        }
    }

    private static void anyLong() {
        D.says("Promise 6: The n lowest bytes of w (any long)");
        long[] words = {Long.MIN_VALUE, Long.MAX_VALUE, -1L, 0L, 0xFFFFFFFF00000000L};
        for (long w : words) {
            for (int n = 1; n <= 8; n++) {
                WalkTeller t = Due.corners(1);
                D.due("feed(" + w + ", " + n + ")", t.feed(w, n), n);
                D.due("story", t.story(), Due.WRONG);
            }
        }
        D.says("Promise 6: bytes of w above the n lowest do not come");
        for (long above : new long[] {0, -1L << 32, 0x3030303000000000L, Long.MIN_VALUE}) {
            WalkTeller t = Due.corners(1);
            t.feed(0x3B316530L | above, 4);
            D.due("above: " + above, t.story(), 0);
        }
    }

    /** Feeds a text by words of n bytes, with the highest bits set above them. */
    private static void feedBy(WalkTeller t, String text, int n) {
        byte[] bytes = text.getBytes(java.nio.charset.StandardCharsets.ISO_8859_1);
        for (int at = 0; at < bytes.length; at += n) {
            int count = Math.min(n, bytes.length - at);
            long above = count == 8 ? 0 : -1L << 8 * count;
            t.feed(Due.word(bytes, at, count) | above, count);
        }
    }

    private static void theLowestFirst() {
        D.says("Promise 6: the lowest first");
        String text = "0s9abl@0246;0p1;0t2a;";
        for (int n = 1; n <= 8; n++) {
            WalkTeller t = Due.corners(1);
            feedBy(t, text, n);
            D.due("by " + n, t.story(), 0);
            D.due("by " + n + ": needs", t.of(0, 0, 3), 1 | 2 | 1 << 11);
            D.due("by " + n + ": days", t.of(0, 0, 4), 1 | 4 | 16 | 64);
            D.due("by " + n + ": the last one's length", t.of(0, 2, 2), 2);
            for (int at = 0; at < text.length(); at++) {
                String wrong = text.substring(0, at) + (char) (text.charAt(at) + 128) + text.substring(at + 1);
                feedBy(t, wrong, n);
                D.due("by " + n + ", a byte above 127 at " + at, t.story(), Due.WRONG - at);
            }
        }
    }

    /** Of all 256 bytes behind the beginning of a text, just these can stand there. */
    private static void stand(int corners, String begin, String good) {
        for (int sign = 0; sign < 256; sign++) {
            WalkTeller t = Due.corners(corners);
            String text = begin + (char) sign;
            boolean stands = good.indexOf(sign) >= 0;
            int want = Due.WRONG - begin.length() - (stands ? 1 : 0);
            if (stands && sign == ';') {
                want = 0;
            }
            D.due(begin + " and byte " + sign, Due.tell(t, text), want);
            D.due(begin + " and byte " + sign + ": editions", t.told(2), want == 0 ? 1 : 0);
        }
    }

    private static void whatCanStandWhere() {
        D.says("Terms 2: a letter (p PIECE, s SONG, t TURN, e END)");
        stand(8, "0", "pste");
        stand(8, "7", "pste");
        D.says("Terms 2: a digit 1 to 9 (LENGTH)");
        for (String kind : new String[] {"p", "s", "t", "e"}) {
            stand(8, "0" + kind, "123456789");
        }
        D.says("Terms 2: letters a to l (its NEEDS); none or more, each behind the one ahead of it in the alphabet");
        for (String begin : new String[] {"0p1", "3t9", "7e5"}) {
            stand(8, begin, NEEDS + ";");
            for (int n = 0; n < 12; n++) {
                stand(8, begin + NEEDS.charAt(n), NEEDS.substring(n + 1) + ";");
            }
            stand(8, begin + NEEDS, ";");
        }
        stand(8, "0p1ac", "defghijkl;");
        D.says("Terms 2: for a SONG, if it is not told on all DAYS, an @");
        stand(8, "0s1", NEEDS + "@;");
        stand(8, "0s1k", "l@;");
        stand(8, "0s1" + NEEDS, "@;");
        D.says("Terms 2: digits 0 to 6 (one or more, each greater than the one ahead of it)");
        stand(8, "0s1@", "0123456");
        stand(8, "0s1l@", "0123456");
        for (int n = 0; n < 7; n++) {
            stand(8, "0s1@" + n, "0123456".substring(n + 1) + ";");
        }
        stand(8, "0s1@02", "3456;");
        stand(8, "0s1@0123456", ";");
    }

    private static void cornersThatThereAre() {
        for (int corners = 0; corners <= 8; corners++) {
            D.says("Terms 2: a digit (a CORNER that there is), of " + corners);
            stand(corners, "", "01234567".substring(0, corners));
            if (corners > 0) {
                stand(corners, "0p1;", "01234567".substring(0, corners));
                stand(corners, "0s1a@3;0e1;", "01234567".substring(0, corners));
            }
        }
        D.says("Terms 2: a CORNER that there is as the TEXT is read, not as it is fed");
        WalkTeller t = new WalkTeller();
        Due.feedText(t, "0e1;");
        t.corner(0, 0);
        D.due("story", t.story(), 0);
    }

    private static void whereATextMayEnd() {
        D.says("Terms 2: or the TEXT's length, if it ends where it can't; one PIECE or more");
        String text = "0s1al@016;1p2;2t3bc;0e9l;";
        for (int length = 0; length <= text.length(); length++) {
            WalkTeller t = Due.corners(3);
            String begin = text.substring(0, length);
            int want = begin.endsWith(";") ? 0 : Due.WRONG - length;
            D.due("the first " + length, Due.tell(t, begin), want);
        }
    }

    private static void theFirstWrongByte() {
        D.says("Terms 2: WRONG is the place of the first byte that can't stand there");
        String text = "0s1al@016;1p2;2t3bc;0e9l;";
        for (int at = 0; at < text.length(); at++) {
            for (int then = at; then < text.length(); then++) {
                StringBuilder wrong = new StringBuilder(text);
                wrong.setCharAt(at, '!');
                wrong.setCharAt(then, '!');
                D.due(wrong.toString(), Due.tell(Due.corners(3), wrong.toString()), Due.WRONG - at);
            }
            String cut = text.substring(0, at) + "!";
            D.due(cut, Due.tell(Due.corners(3), cut), Due.WRONG - at);
        }
    }

    private static void theFarthestPlaces() {
        D.says("Promise 7: -1000100 less WRONG");
        String begin = "0s1abcdefghijkl@0123456;".repeat(8);
        WalkTeller t = Due.corners(1);
        D.due("200 bytes, wrong at their end", Due.tell(t, begin + "0e2;0e2a"), -1000300);
        D.due("200 bytes, the last one wrong", Due.tell(t, begin + "0e2;0e2!"), -1000299);
        D.due("200 bytes, the first one wrong", Due.tell(t, "!" + begin + "0e2;0e2"), -1000100);
        D.due("200 bytes, the second one wrong", Due.tell(t, "0!" + begin + "0e2;0e"), -1000101);
        D.due("200 bytes, none wrong", Due.tell(t, begin + "0e2;0e2;"), 0);
        D.due("no bytes", t.story(), -1000100);
    }

    private static void atMostTwelvePieces() {
        D.says("Terms 2: PIECES 0, 1, .. (at most 12); WRONG: (that of a 13th PIECE, too)");
        for (int pieces = 1; pieces <= 12; pieces++) {
            WalkTeller t = Due.corners(2);
            D.due(pieces + " pieces", Due.tell(t, "1e5a;".repeat(pieces)), 0);
            D.due("the last one", t.of(0, pieces - 1, 2), 5);
            D.due("none behind it", t.of(0, pieces, 2), Due.BEYOND);
        }
        stand(2, "1e5a;".repeat(11), "01");
        stand(2, "1e5a;".repeat(12), "");
        stand(2, "0p1;0s1@6;".repeat(6), "");
        D.due("a whole 13th", Due.tell(Due.corners(1), "0p1;".repeat(13)), Due.WRONG - 48);
        D.due("50 of them", Due.tell(Due.corners(1), "0p1;".repeat(50)), Due.WRONG - 48);
        D.due("a fault ahead of it", Due.tell(Due.corners(1), "0p1;".repeat(11) + "0p0;0p1;"), Due.WRONG - 46);
    }

    private static void atMostFourEditions() {
        D.says("Terms 2: EDITIONS 0, 1, .. (at most 4); Promise 7: its number. FULL: there are 4");
        WalkTeller t = Due.corners(1);
        for (int n = 0; n < 4; n++) {
            D.due("edition " + n, Due.tell(t, "0p" + (n + 1) + ";"), n);
            D.due("editions", t.told(2), n + 1);
        }
        D.due("a fifth", Due.tell(t, "0p9;"), Due.FULL);
        D.due("a fifth again", Due.tell(t, "0e8;0p1;"), Due.FULL);
        D.due("four", t.told(2), 4);
        for (int n = 0; n < 4; n++) {
            D.due("edition " + n + " is as it was", t.of(n, 0, 2), n + 1);
        }
        D.due("no edition 4", t.of(4, 0, 2), Due.BEYOND);
        D.says("Promise 7: WRONG is asked ahead of FULL");
        D.due("a fifth, wrong", Due.tell(t, "0p0;"), Due.WRONG - 2);
        D.due("a fifth, empty", t.story(), Due.WRONG);
        D.due("a fifth with a 13th piece", Due.tell(t, "0p1;".repeat(13)), Due.WRONG - 48);
    }

    private static void theTapeIsEmptyThen() {
        D.says("Promise 7: The tape is empty then, whatever is answered");
        WalkTeller t = Due.corners(1);
        D.due("wrong", Due.tell(t, "0p1;0"), Due.WRONG - 5);
        D.due("empty", t.told(5), 0);
        D.due("nothing of it is left", Due.tell(t, "0p1;"), 0);
        D.due("empty behind an edition", t.told(5), 0);
        D.due("and wrong, then", t.story(), Due.WRONG);
        for (int n = 1; n < 4; n++) {
            Due.tell(t, "0p1;");
        }
        D.due("full", Due.tell(t, "0p1;0p1;"), Due.FULL);
        D.due("empty behind it", t.told(5), 0);
        D.due("and wrong, then", t.story(), Due.WRONG);
        D.due("wrong at the end of 200", Due.tell(t, "0p1".repeat(66) + "0p"), Due.WRONG - 3);
        D.due("empty behind them", t.told(5), 0);
        D.due("room for 8 again", t.feed(0, 8), 8);
    }

    private static void asKinds() {
        D.says("Terms 2: 0 PIECE, 1 SONG under PIECE, 2 TURN under PIECE, 3 END under TURN");
        WalkTeller t = Due.corners(1);
        Due.tell(t, "0p1;0s1;0t1;0e1;");
        int[] kinds = {0b0001, 0b0011, 0b0101, 0b1101};
        int others = 0;
        for (int piece = 0; piece < 4; piece++) {
            D.due("kind", t.of(0, piece, 0), piece);
            for (int kind = 0; kind < 4; kind++) {
                boolean is = (kinds[piece] >> kind & 1) == 1;
                others += is ? 0 : 1;
                D.due(piece + " as " + kind, t.as(0, piece, kind), is ? piece : Due.KIND);
            }
        }
        D.due("each KIND counts", t.told(6), others);
        Due.tell(t, "0e1;".repeat(12));
        D.says("Promise 8: A PIECE of an EDITION as one of a kind: its number");
        for (int piece = 0; piece < 12; piece++) {
            D.due("piece " + piece, t.as(1, piece, 3), piece);
        }
    }

    private static void asFindings() {
        D.says("Promise 8: BEYOND: no such EDITION, PIECE, or kind");
        WalkTeller t = Due.corners(1);
        D.due("no editions", t.as(0, 0, 0), Due.BEYOND);
        Due.tell(t, "0p1;0p1;");
        Due.tell(t, "0s1;");
        for (int v : Due.outside(0, 1)) {
            D.due("edition " + v, t.as(v, 0, 0), Due.BEYOND);
            D.due("piece " + v, t.as(0, v, 0), Due.BEYOND);
        }
        for (int v : Due.outside(0, 0)) {
            D.due("piece " + v + " of a shorter one", t.as(1, v, 0), Due.BEYOND);
        }
        for (int v : Due.outside(0, 3)) {
            D.due("kind " + v, t.as(0, 0, v), Due.BEYOND);
        }
        D.says("Promise 8: BEYOND is asked ahead of KIND");
        D.due("no piece, other kind", t.as(1, 1, 2), Due.BEYOND);
        D.due("no edition, other kind", t.as(2, 0, 3), Due.BEYOND);
    }

    private static void ofAPiece() {
        D.says("Promise 9: 0 kind, 1 CORNER, 2 LENGTH, 3 NEEDS, 4 DAYS");
        WalkTeller t = Due.corners(8);
        Due.tell(t, "0p1;7e9abcdefghijkl;3s5a@0;4s6l@6;0s1@0123456;0s1;0t2k;");
        int[][] want = {{0, 0, 1, 0, 127}, {3, 7, 9, 4095, 127}, {1, 3, 5, 1, 1}, {1, 4, 6, 2048, 64},
            {1, 0, 1, 0, 127}, {1, 0, 1, 0, 127}, {2, 0, 2, 1024, 127}};
        for (int piece = 0; piece < want.length; piece++) {
            for (int what = 0; what < 5; what++) {
                D.due("of(0, " + piece + ", " + what + ")", t.of(0, piece, what), want[piece][what]);
            }
        }
        D.says("Terms 2: a set, told by bits: each need and each day by its own");
        WalkTeller u = Due.corners(1);
        StringBuilder needs = new StringBuilder();
        StringBuilder days = new StringBuilder();
        for (int n = 0; n < 12; n++) {
            needs.append("0t1").append(NEEDS.charAt(n)).append(';');
        }
        for (int n = 0; n < 7; n++) {
            days.append("0s1@").append(n).append(';');
        }
        Due.tell(u, needs.toString());
        Due.tell(u, days.toString());
        for (int n = 0; n < 12; n++) {
            D.due("need " + n, u.of(0, n, 3), 1 << n);
        }
        for (int n = 0; n < 7; n++) {
            D.due("day " + n, u.of(1, n, 4), 1 << n);
        }
    }

    private static void ofFindings() {
        D.says("Promise 9: BEYOND: no such EDITION, PIECE, or what");
        WalkTeller t = Due.corners(1);
        for (int what = 0; what < 5; what++) {
            D.due("no editions", t.of(0, 0, what), Due.BEYOND);
        }
        Due.tell(t, "0p1;0p1;0p1;");
        for (int v : Due.outside(0, 0)) {
            D.due("edition " + v, t.of(v, 0, 0), Due.BEYOND);
        }
        for (int v : Due.outside(0, 2)) {
            D.due("piece " + v, t.of(0, v, 4), Due.BEYOND);
        }
        for (int v : Due.outside(0, 4)) {
            D.due("what " + v, t.of(0, 0, v), Due.BEYOND);
        }
    }
}
