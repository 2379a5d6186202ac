/** Promises 6 to 9: feed, story, as, of. */
public final class StoryTest {
    private static final Due D = new Due();

    public static void main(String[] args) {
        feed();
        feedTakesTheLowestFirst();
        wrongTexts();
        goodTexts();
        thirteenPieces();
        cornersThatThereAre();
        fullEditions();
        as();
        of();
        D.end();
    }

    private static void feed() {
        WalkTeller t = Due.corners(1);
        D.due("n 0", t.feed(0, 0), Due.BEYOND);
        D.due("n 9", t.feed(0, 9), Due.BEYOND);
        D.due("n -1", t.feed(0, -1), Due.BEYOND);
        D.due("n least", t.feed(0, Integer.MIN_VALUE), Due.BEYOND);
        D.due("n most", t.feed(0, Integer.MAX_VALUE), Due.BEYOND);
        for (int n = 1; n <= 24; n++) {
            D.due("feed " + n, t.feed(-1L, 8), 8 * n);
        }
        D.due("to 199", t.feed(0, 7), 199);
        D.due("to 201", t.feed(0, 2), Due.FULL);
        D.due("n 9 of a full tape", t.feed(0, 9), Due.BEYOND);
        D.due("to 200", t.feed(0, 1), 200);
        D.due("to 201", t.feed(0, 1), Due.FULL);
        D.due("bytes", t.told(5), 200);
        D.due("story", t.story(), Due.WRONG);
        D.due("bytes then", t.told(5), 0);
        D.due("feed anew", t.feed(0, 3), 3);
    }

    private static void feedTakesTheLowestFirst() {
        WalkTeller t = Due.corners(1);
        D.due("a word with more than is asked", t.feed(0x7A7A7A7A3B316530L, 4), 4);
        D.due("story", t.story(), 0);
        D.due("kind", t.of(0, 0, 0), 3);
        t.feed('0', 1);
        t.feed('e', 1);
        t.feed('9' | ';' << 8, 2);
        D.due("story of three words", t.story(), 1);
        D.due("length", t.of(1, 0, 2), 9);
    }

    private static void wrong(String text, int place) {
        WalkTeller t = Due.corners(3);
        D.due("wrong " + text, Due.tell(t, text), Due.WRONG - place);
        D.due("tape behind " + text, t.told(5), 0);
        D.due("editions behind " + text, t.told(2), 0);
        D.due("findings behind " + text, t.told(6), 1);
    }

    private static void wrongTexts() {
        wrong("", 0);
        wrong("0", 1);
        wrong("0p", 2);
        wrong("0p1", 3);
        wrong("0p1a", 4);
        wrong("0s1@", 4);
        wrong("0s1@0", 5);
        wrong("0p1;0", 5);
        wrong("3p1;", 0);
        wrong("9p1;", 0);
        wrong("/p1;", 0);
        wrong(";", 0);
        wrong("p0p1;", 0);
        wrong("0q1;", 1);
        wrong("0P1;", 1);
        wrong("00p1;", 1);
        wrong("0p0;", 2);
        wrong("0p:;", 2);
        wrong("0p;", 2);
        wrong("0p11;", 3);
        wrong("0p1m;", 3);
        wrong("0p1A;", 3);
        wrong("0p1aa;", 4);
        wrong("0p1ba;", 4);
        wrong("0p1alb;", 5);
        wrong("0p1@0;", 3);
        wrong("0t1@0;", 3);
        wrong("0e1a@0;", 4);
        wrong("0s1A0;", 3);
        wrong("0s1?0;", 3);
        wrong("0p1<", 3);
        wrong("0p1:", 3);
        wrong("0s1@;", 4);
        wrong("0s1@a;", 4);
        wrong("0s1@7;", 4);
        wrong("0s1@00;", 5);
        wrong("0s1@10;", 5);
        wrong("0s1@0a;", 5);
        wrong("0s1@0@1;", 5);
        wrong("0s1@0123456;;", 12);
        wrong("0p1; 1p1;", 4);
        wrong("0p1;1p1;2e1", 11);
        wrong("0p1;\u00ff", 4);
        wrong("0p\u00b11;", 2);
        wrong("0p1\u00e1;", 3);
        wrong("\u00b0p1;", 0);
        wrong("\u0000", 0);
        wrong("0p1\u0000", 3);
    }

    private static void goodTexts() {
        WalkTeller t = Due.corners(3);
        D.due("the least", Due.tell(t, "0p1;"), 0);
        D.due("all needs", Due.tell(t, "2t9abcdefghijkl;"), 1);
        D.due("needs", t.of(1, 0, 3), 4095);
        D.due("all days", Due.tell(t, "1s5l@0123456;"), 2);
        D.due("days", t.of(2, 0, 4), 127);
        D.due("need that there is not", t.of(2, 0, 3), 1 << 11);
        D.due("four kinds", Due.tell(t, "0p1;1s2@6;2t3b;0e4ac;"), 3);
        for (int piece = 0; piece < 4; piece++) {
            D.due("kind " + piece, t.of(3, piece, 0), piece);
        }
    }

    private static void thirteenPieces() {
        WalkTeller t = Due.corners(1);
        String twelve = "0p1;".repeat(12);
        D.due("twelve", Due.tell(t, twelve), 0);
        D.due("piece 11", t.as(0, 11, 0), 11);
        D.due("piece 12", t.as(0, 12, 0), Due.BEYOND);
        D.due("thirteen", Due.tell(t, twelve + "0p1;"), Due.WRONG - 48);
        D.due("twelve and a bit", Due.tell(t, twelve + "x"), Due.WRONG - 48);
        D.due("thirteen with a fault ahead", Due.tell(t, "0x1;" + twelve), Due.WRONG - 1);
        String longest = "0s1abcdefghijkl@0123456;".repeat(8);
        D.due("192 bytes", Due.feedText(t, longest), 192);
        D.due("200 bytes", Due.feedText(t, "0e2;0e3;"), 200);
        D.due("its edition", t.story(), 1);
        D.due("its last piece", t.of(1, 9, 2), 3);
    }

    private static void cornersThatThereAre() {
        WalkTeller t = new WalkTeller();
        D.due("no corners", Due.tell(t, "0p1;"), Due.WRONG);
        t.corner(0, 0);
        D.due("one", Due.tell(t, "0p1;"), 0);
        D.due("not two", Due.tell(t, "0p1;1p1;"), Due.WRONG - 4);
        for (int n = 1; n < 8; n++) {
            t.corner(0, 0);
        }
        D.due("eight", Due.tell(t, "7p1;"), 1);
        D.due("its corner", t.of(1, 0, 1), 7);
        D.due("not nine", Due.tell(t, "8p1;"), Due.WRONG);
    }

    private static void fullEditions() {
        WalkTeller t = Due.corners(1);
        for (int n = 0; n < 4; n++) {
            D.due("edition " + n, Due.tell(t, "0p" + (n + 1) + ";"), n);
        }
        D.due("a fifth", Due.tell(t, "0p9;"), Due.FULL);
        D.due("its tape", t.told(5), 0);
        D.due("a fifth, wrong", Due.tell(t, "0p9"), Due.WRONG - 3);
        D.due("a fifth, empty", t.story(), Due.WRONG);
        D.due("editions", t.told(2), 4);
        for (int n = 4; n < 7; n++) {
            D.due("of no such edition " + n, t.of(n, 0, 0), Due.BEYOND);
        }
        D.due("the last is as it was", t.of(3, 0, 2), 4);
        D.due("the first is as it was", t.of(0, 0, 2), 1);
    }

    private static void as() {
        WalkTeller t = Due.corners(1);
        Due.tell(t, "0p1;0s1;0t1;0e1;");
        boolean[][] under = {
            {true, false, false, false},
            {true, true, false, false},
            {true, false, true, false},
            {true, false, true, true},
        };
        for (int piece = 0; piece < 4; piece++) {
            for (int kind = 0; kind < 4; kind++) {
                int want = under[piece][kind] ? piece : Due.KIND;
                D.due("as(0, " + piece + ", " + kind + ")", t.as(0, piece, kind), want);
            }
        }
        D.due("no edition 1", t.as(1, 0, 0), Due.BEYOND);
        D.due("no edition -1", t.as(-1, 0, 0), Due.BEYOND);
        D.due("no piece 4", t.as(0, 4, 0), Due.BEYOND);
        D.due("no piece -1", t.as(0, -1, 0), Due.BEYOND);
        D.due("no kind 4", t.as(0, 3, 4), Due.BEYOND);
        D.due("no kind -1", t.as(0, 3, -1), Due.BEYOND);
        D.due("no kind most", t.as(0, 0, Integer.MAX_VALUE), Due.BEYOND);
    }

    private static void of() {
        WalkTeller t = Due.corners(3);
        Due.tell(t, "2p7bl;1s9@026;");
        int[][] want = {{0, 2, 7, 2 | 1 << 11, 127}, {1, 1, 9, 0, 1 | 4 | 64}};
        for (int piece = 0; piece < 2; piece++) {
            for (int what = 0; what < 5; what++) {
                D.due("of(0, " + piece + ", " + what + ")", t.of(0, piece, what), want[piece][what]);
            }
        }
        D.due("no what 5", t.of(0, 0, 5), Due.BEYOND);
        D.due("no what -1", t.of(0, 0, -1), Due.BEYOND);
        D.due("no piece 2", t.of(0, 2, 0), Due.BEYOND);
        D.due("no piece -1", t.of(0, -1, 0), Due.BEYOND);
        D.due("no edition 1", t.of(1, 0, 0), Due.BEYOND);
        D.due("no edition least", t.of(Integer.MIN_VALUE, 0, 0), Due.BEYOND);
        D.due("findings", t.told(6), 6);
    }
}
