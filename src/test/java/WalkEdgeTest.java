/** The edges of the third term and of promises 10 to 12, sentence by sentence. */
public final class WalkEdgeTest {
    private static final Due D = new Due();

    public static void main(String[] args) {
        needsOfEachKind();
        daysOfASong();
        onlyAtItsCorner();
        theLeastNumberIsTold();
        whatCanBeToldKeepsOneHere();
        goingOnTheDay();
        overIsOver();
        howManyMoments();
        momentsWithoutAnEnd();
        twoVoices();
        heardInSome();
        checkFindings();
        quickestTimes();
        quickestFindings();
        theLongestRoute();
        theLesserCorner();
        routeFindings();
        theLargestStory();
        D.end();
    }

    /** Whether piece 2 is heard, if piece 0 was and piece 1 can't be. */
    private static void need(String kind, String needs, boolean heard) {
        WalkTeller t = Due.corners(2);
        Due.tell(t, "0p1;1p1;0" + kind + "1" + needs + ";");
        D.due(kind + " that needs " + needs, t.check(0, 0, 0, true, 3), heard ? 5 : 1);
        D.due(kind + " that needs " + needs + ": how many", t.check(0, 0, 0, true, 0), heard ? 3 : 2);
    }

    private static void needsOfEachKind() {
        for (String kind : new String[] {"p", "s"}) {
            D.says("Terms 3: its NEEDS are met: of a PIECE and SONG all were HEARD");
            need(kind, "", true);
            need(kind, "a", true);
            need(kind, "b", false);
            need(kind, "ab", false);
            need(kind, "l", false);
            need(kind, "al", false);
            need(kind, "c", false);
            need(kind, "ac", false);
        }
        for (String kind : new String[] {"t", "e"}) {
            D.says("Terms 3: its NEEDS are met: of a TURN and END one was, or it has none");
            need(kind, "", true);
            need(kind, "a", true);
            need(kind, "b", false);
            need(kind, "ab", true);
            need(kind, "l", false);
            need(kind, "al", true);
            need(kind, "c", false);
            need(kind, "ac", true);
            need(kind, "bcdefghijkl", false);
            need(kind, "abcdefghijkl", true);
        }
        D.says("Terms 3: all were HEARD, of eleven");
        WalkTeller t = Due.street(2);
        Due.tell(t, "0p1;".repeat(11) + "0p1abcdefghijk;");
        Due.tell(t, "0p1;".repeat(10) + "1p1;0p1abcdefghijk;");
        D.due("all eleven", t.check(0, 0, 0, true, 3), 4095);
        t.shut(0, 1);
        D.due("ten", t.check(1, 0, 0, true, 3), 1023);
        D.due("the last one, too, on another day", t.check(1, 0, 1, true, 3), 4095);
    }

    private static void daysOfASong() {
        D.says("Terms 3: is told on that DAY");
        WalkTeller t = Due.corners(1);
        Due.tell(t, "0s1@0;0s1@6;0s1@135;0s1;0p1;0t1;0e1h;");
        for (int day = 0; day < 7; day++) {
            int odd = day == 1 || day == 3 || day == 5 ? 4 : 0;
            int want = 8 | 16 | 32 | odd | (day == 0 ? 1 : 0) | (day == 6 ? 2 : 0);
            D.due("heard on " + day, t.check(0, 0, day, true, 3), want);
        }
    }

    private static void onlyAtItsCorner() {
        D.says("Terms 3: if it is at the CORNER");
        WalkTeller t = Due.corners(8);
        Due.tell(t, "0p1;1p1;2p1;3p1;4p1;5p1;6p1;7p1;");
        for (int n = 0; n < 8; n++) {
            D.due("at " + n, t.check(0, n, 0, true, 3), 1 << n);
        }
    }

    private static void theLeastNumberIsTold() {
        D.says("Terms 3: the one with the least number is told: it takes its LENGTH");
        WalkTeller t = Due.corners(1);
        Due.tell(t, "0e1;0p9;");
        Due.tell(t, "0p9;0e1;");
        Due.tell(t, "0p9b;0p2;0e1;");
        Due.tell(t, "0e9b;0p2;0e1;");
        D.due("the end ahead of the piece", t.quickest(0, 0, 0, true), 1);
        D.due("the piece ahead of the end", t.quickest(1, 0, 0, true), 10);
        D.due("piece 0 as soon as it can be", t.quickest(2, 0, 0, true), 12);
        D.due("the lesser end, though it takes longer", t.quickest(3, 0, 0, true), 11);
        D.due("so the other one is not heard", t.check(3, 0, 0, true, 3), 3);
    }

    private static void whatCanBeToldKeepsOneHere() {
        D.says("Terms 3: If none CAN, one goes by a WAY");
        WalkTeller t = Due.street(2);
        Due.tell(t, "0p1;");
        D.due("0; then 0 and 1 with it", t.check(0, 0, 0, true, 0), 3);
        D.due("from 1: 1, 0; then both with it", t.check(0, 1, 0, true, 0), 4);
        Due.tell(t, "0p1;".repeat(12));
        D.due("twelve ahead of going", t.check(1, 0, 0, true, 0), 12 + 2);
    }

    private static void goingOnTheDay() {
        D.says("Terms 3: a WAY that is not SHUT that DAY, to its other CORNER, which takes its LENGTH");
        WalkTeller t = Due.corners(2);
        t.way(1, 0, 20, false);
        Due.tell(t, "1e9;");
        t.shut(0, 0b1000001);
        for (int day = 0; day < 7; day++) {
            boolean isShut = day == 0 || day == 6;
            D.due("quickest on " + day, t.quickest(0, 0, day, false), isShut ? Due.NONE : 29);
            D.due("moments on " + day, t.check(0, 0, day, false, 0), isShut ? 1 : 3);
        }
    }

    private static void overIsOver() {
        D.says("Terms 3: In a MOMENT in which an END was HEARD the walk is over");
        WalkTeller t = Due.street(2);
        Due.tell(t, "0e1;0p1;1p1;");
        Due.tell(t, "0t1;0p1;1p1;");
        D.due("nothing behind the end", t.check(0, 0, 0, true, 0), 2);
        D.due("nor heard", t.check(0, 0, 0, true, 3), 1);
        D.due("a turn is no end", t.check(1, 0, 0, true, 3), 7);
        D.due("nor over", t.check(1, 0, 0, true, 1), t.check(1, 0, 0, true, 0));
        D.says("Terms 3: over, and so no CORNER is gone to behind it, whatever was asked ahead");
        WalkTeller u = Due.street(3);
        Due.tell(u, "1p1;1p1;2e1;");
        Due.tell(u, "1e1;1p1;2p1;");
        for (int edition : new int[] {0, 1, 0, 1}) {
            D.due("first of " + edition, u.route(edition, 0, 0, true, 0), 1);
            D.due("second of " + edition, u.route(edition, 0, 0, true, 1), edition == 0 ? 2 : -1);
            D.due("third of " + edition, u.route(edition, 0, 0, true, 2), -1);
        }
    }

    private static void howManyMoments() {
        D.says("Promise 10: MOMENTS that can be come to from a CORNER with nothing HEARD (that one among them)");
        WalkTeller t = Due.corners(8);
        Due.tell(t, "0p1;");
        Due.tell(t, "0p1;".repeat(12));
        Due.tell(t, "0p1;0p1a;0p1b;0p1c;0p1d;0p1e;0p1f;0p1g;0p1h;0p1i;0p1j;0p1k;");
        D.due("that one alone", t.check(0, 7, 0, true, 0), 1);
        D.due("that one and the next", t.check(0, 0, 0, true, 0), 2);
        D.due("twelve behind it", t.check(1, 0, 0, true, 0), 13);
        for (int n = 0; n + 1 < 8; n++) {
            t.way(n, n + 1, 1, false);
        }
        D.due("eight corners without, eight with it", t.check(0, 7, 0, true, 0), 16);
        D.due("eight, eleven at 0, eight with all", t.check(2, 7, 0, true, 0), 27);
        D.due("one, eleven at 0, eight with all", t.check(2, 0, 0, true, 0), 20);
    }

    private static void momentsWithoutAnEnd() {
        D.says("Promise 10: 1 how many of them are not over, and from which none can be come to that is");
        WalkTeller t = Due.corners(3);
        t.way(0, 1, 1, false);
        t.way(1, 2, 1, true);
        Due.tell(t, "0p1;");
        Due.tell(t, "2e1;");
        D.due("no end at all", t.check(0, 0, 0, true, 1), 4);
        D.due("an end from all", t.check(1, 0, 0, true, 1), 0);
        D.due("none without stairs", t.check(1, 0, 0, false, 1), 2);
        D.due("at once", t.check(1, 2, 0, false, 1), 0);
        D.due("none that needs what is not", Due.tell(t, "2e1l;"), 2);
        D.due("all", t.check(2, 0, 0, true, 1), 3);
        // As one goes both ways, and what is heard hinders nothing, it is all of the MOMENTS or none.
        D.says("Promise 10: 1, by DAY");
        WalkTeller u = Due.street(3);
        Due.tell(u, "1s1@0;2e1a;0e9b;");
        D.due("on day 0", u.check(0, 0, 0, true, 1), 0);
        D.due("on day 1 all", u.check(0, 0, 1, true, 1), u.check(0, 0, 1, true, 0));
        D.due("on day 1", u.check(0, 0, 1, true, 1), 3);
    }

    private static void twoVoices() {
        D.says("Promise 10: 2 in how many of them, not over, two PIECES or more CAN be told");
        WalkTeller t = Due.corners(1);
        Due.tell(t, "0p1;");
        Due.tell(t, "0p1;0p1;");
        Due.tell(t, "0p1;".repeat(12));
        Due.tell(t, "0e1;0p1;0p1;");
        D.due("one", t.check(0, 0, 0, true, 2), 0);
        D.due("two, then one", t.check(1, 0, 0, true, 2), 1);
        D.due("twelve, .. two, one", t.check(2, 0, 0, true, 2), 11);
        D.due("not in the one that is over", t.check(3, 0, 0, true, 2), 1);
        WalkTeller u = Due.street(2);
        Due.tell(u, "0s1@03;1s1@3;0s1@3;");
        D.due("one on day 0", u.check(0, 0, 0, true, 2), 0);
        D.due("two on day 3", u.check(0, 0, 3, true, 2), 1);
        D.due("none on day 1", u.check(0, 0, 1, true, 2), 0);
        Due.tell(u, "0p1;0p1a;0t1b;0e1c;");
        D.due("one behind the other", u.check(1, 0, 0, true, 2), 0);
    }

    private static void heardInSome() {
        D.says("Promise 10: 3 the set of PIECES that are HEARD in some");
        WalkTeller t = Due.street(3);
        Due.tell(t, "0e1l;");
        Due.tell(t, "1p1;".repeat(12));
        Due.tell(t, "0e1;2e1;1p1;");
        D.due("none", t.check(0, 0, 0, true, 3), 0);
        D.due("all twelve", t.check(1, 0, 0, true, 3), 4095);
        D.due("both ends, though not in one", t.check(2, 1, 0, true, 3), 7);
        D.due("the first alone", t.check(2, 0, 0, true, 3), 1);
    }

    private static void checkFindings() {
        D.says("Promise 10: BEYOND: no such EDITION, CORNER, DAY, or what");
        WalkTeller t = new WalkTeller();
        D.due("nothing there", t.check(0, 0, 0, true, 0), Due.BEYOND);
        t = Due.street(3);
        D.due("no edition", t.check(0, 0, 0, true, 0), Due.BEYOND);
        Due.tell(t, "0p1;");
        Due.tell(t, "2e1;");
        for (int v : Due.outside(0, 1)) {
            D.due("edition " + v, t.check(v, 0, 0, true, 0), Due.BEYOND);
        }
        for (int v : Due.outside(0, 2)) {
            D.due("corner " + v, t.check(0, v, 0, true, 1), Due.BEYOND);
        }
        for (int v : Due.outside(0, 6)) {
            D.due("day " + v, t.check(0, 0, v, true, 2), Due.BEYOND);
        }
        for (int v : Due.outside(0, 3)) {
            D.due("what " + v, t.check(0, 0, 0, true, v), Due.BEYOND);
        }
        D.due("the last of each", t.check(1, 2, 6, false, 3), 1);
    }

    private static void quickestTimes() {
        D.says("Promise 11: TIME of THE QUICKEST from a CORNER with nothing HEARD");
        WalkTeller t = Due.corners(2);
        Due.tell(t, "0e1;");
        Due.tell(t, "0p9;".repeat(11) + "0e9;");
        D.due("the least", t.quickest(0, 0, 0, true), 1);
        D.due("all twelve here", t.quickest(1, 0, 0, true), 108);
        t.way(0, 1, 1, true);
        t.way(0, 1, 20, false);
        D.due("one to go", t.quickest(0, 1, 0, true), 2);
        D.due("twenty without stairs", t.quickest(0, 1, 6, false), 21);
        D.says("Promise 11: the least TIME: a shorter END farther off, and a longer one here");
        WalkTeller u = Due.corners(3);
        u.way(0, 1, 3, false);
        u.way(0, 2, 4, false);
        Due.tell(u, "1e9;2e8;");
        Due.tell(u, "1e9;2e7;");
        D.due("3 + 9 and 4 + 8: one time", u.quickest(0, 0, 0, true), 12);
        D.due("to the lesser corner", u.route(0, 0, 0, true, 0), 1);
        D.due("4 + 7", u.quickest(1, 0, 0, true), 11);
        D.due("to 2", u.route(1, 0, 0, true, 0), 2);
        WalkTeller v = Due.street(8);
        for (int n = 0; n < 7; n++) {
            v.way(n, 7, 20, false);
        }
        Due.tell(v, "7e1;");
        for (int n = 0; n < 8; n++) {
            D.due("by many short ways, not by a straight one, from " + n, v.quickest(0, n, 0, true), 8 - n);
        }
    }

    private static void quickestFindings() {
        D.says("Promise 11: BEYOND: no such EDITION, CORNER, or DAY. NONE: no END can be HEARD");
        WalkTeller t = Due.corners(3);
        D.due("no edition", t.quickest(0, 0, 0, true), Due.BEYOND);
        Due.tell(t, "2e1;");
        for (int v : Due.outside(0, 0)) {
            D.due("edition " + v, t.quickest(v, 0, 0, true), Due.BEYOND);
        }
        for (int v : Due.outside(0, 2)) {
            D.due("corner " + v, t.quickest(0, v, 0, true), Due.BEYOND);
        }
        for (int v : Due.outside(0, 6)) {
            D.due("day " + v, t.quickest(0, 2, v, true), Due.BEYOND);
            D.due("day " + v + " ahead of NONE", t.quickest(0, 0, v, true), Due.BEYOND);
        }
        D.due("no way to it", t.quickest(0, 0, 0, true), Due.NONE);
        D.due("at it", t.quickest(0, 2, 6, false), 1);
        Due.tell(t, "0t1;0t1a;");
        D.due("no END in the story", t.quickest(1, 0, 0, true), Due.NONE);
        Due.tell(t, "0e1a;");
        D.due("an END that needs itself", t.quickest(2, 0, 0, true), Due.NONE);
    }

    /** Twelve pieces at the ends of the longest street by turns, each behind the one ahead of it. */
    private static void theLongestRoute() {
        D.says("Promise 12: CORNER i (from 0: the first one); -1 behind the last one (no finding)");
        WalkTeller t = Due.corners(8);
        for (int n = 0; n + 1 < 8; n++) {
            t.way(n, n + 1, 20, false);
        }
        Due.tell(t, "7p9;0p9a;7p9b;0p9c;7p9d;0p9e;7p9f;0p9g;7p9h;0p9i;7p9j;0e9k;");
        D.due("twelve times seven ways of 20, and twelve of 9", t.quickest(0, 0, 0, true), 12 * 140 + 12 * 9);
        for (int i = 0; i < 84; i++) {
            int along = i % 14;
            int want = along < 7 ? along + 1 : 13 - along;
            D.due("corner " + i, t.route(0, 0, 0, true, i), want);
        }
        D.due("behind the last one", t.route(0, 0, 0, true, 84), -1);
        D.due("far behind it", t.route(0, 0, 0, true, 85), -1);
        D.due("the greatest i", t.route(0, 0, 0, true, Integer.MAX_VALUE), -1);
        D.due("an end at once: the first is behind the last", Due.tell(t, "3e1;"), 1);
        D.due("an end at once", t.route(1, 3, 0, true, 0), -1);
        D.due("one way: the first", t.route(1, 4, 0, true, 0), 3);
        D.due("one way: the second", t.route(1, 4, 0, true, 1), -1);
        D.due("no findings", t.told(6), 0);
    }

    private static void route(WalkTeller t, int edition, int corner, int... want) {
        for (int i = 0; i < want.length; i++) {
            D.due("corner " + i + " from " + corner, t.route(edition, corner, 0, true, i), want[i]);
        }
        D.due("behind the last", t.route(edition, corner, 0, true, want.length), -1);
    }

    private static void theLesserCorner() {
        D.says("Terms 3: of several walks that in which, where two first differ, one goes to the lesser CORNER");
        WalkTeller t = Due.corners(3);
        t.way(0, 2, 2, false);
        t.way(0, 1, 1, false);
        t.way(1, 2, 1, false);
        Due.tell(t, "2e1;");
        Due.tell(t, "1e1;");
        route(t, 0, 0, 1, 2);
        t.shut(1, 1);
        t.way(0, 1, 3, false);
        route(t, 1, 0, 1);
        route(t, 0, 0, 2);
        D.says("Terms 3: where two first differ, behind some CORNERS that are the same, and a PIECE");
        WalkTeller u = Due.corners(6);
        u.way(5, 4, 1, false);
        u.way(4, 3, 2, false);
        u.way(4, 2, 3, false);
        u.way(3, 0, 2, false);
        u.way(2, 0, 1, false);
        u.way(3, 1, 1, false);
        u.way(1, 0, 1, false);
        Due.tell(u, "4p3;0e1;");
        route(u, 0, 5, 4, 2, 0);
        u.shut(2, 1);
        route(u, 0, 5, 4, 3, 0);
        D.due("both by 3 take as long; 0 is less than 1", u.quickest(0, 5, 0, true), 1 + 3 + 2 + 2 + 1);
        D.says("Terms 3: the least TIME is asked ahead of the lesser CORNER");
        u.shut(3, 1);
        route(u, 0, 5, 4, 3, 1, 0);
        u.shut(2, 0);
        u.shut(4, 1);
        route(u, 0, 5, 4, 3, 1, 0);
    }

    private static void routeFindings() {
        D.says("Promise 12: BEYOND as of quickest(), or i is below 0. NONE as there");
        WalkTeller t = Due.corners(3);
        D.due("no edition", t.route(0, 0, 0, true, 0), Due.BEYOND);
        Due.tell(t, "2e1;");
        for (int v : Due.outside(0, 0)) {
            D.due("edition " + v, t.route(v, 2, 0, true, 0), Due.BEYOND);
        }
        for (int v : Due.outside(0, 2)) {
            D.due("corner " + v, t.route(0, v, 0, true, 0), Due.BEYOND);
        }
        for (int v : Due.outside(0, 6)) {
            D.due("day " + v, t.route(0, 2, v, true, 0), Due.BEYOND);
        }
        for (int v : Due.outside(0, Integer.MAX_VALUE)) {
            D.due("i " + v, t.route(0, 2, 0, true, v), Due.BEYOND);
            D.due("i " + v + " ahead of NONE", t.route(0, 0, 0, true, v), Due.BEYOND);
        }
        D.due("day 7 ahead of NONE", t.route(0, 0, 7, true, 0), Due.BEYOND);
        D.due("none", t.route(0, 0, 0, true, 0), Due.NONE);
        D.due("none, and i the greatest", t.route(0, 0, 0, true, Integer.MAX_VALUE), Due.NONE);
        D.due("behind the last one is no finding", t.route(0, 2, 0, true, 0), -1);
    }

    /** Eight corners, fourteen ways, twelve pieces: as the plain teller answers. */
    private static void theLargestStory() {
        D.says("Promises 10 to 12: the fullest town and the fullest story");
        WalkTeller t = new WalkTeller();
        PlainTeller p = new PlainTeller();
        for (int n = 0; n < 8; n++) {
            t.corner(12 * n, n);
            p.corner(12 * n, n);
        }
        for (int n = 0; n < 14; n++) {
            t.way(n % 8, (n + 1 + n / 8) % 8, 20 - n, n % 3 == 0);
            p.way(n % 8, (n + 1 + n / 8) % 8, 20 - n, n % 3 == 0);
        }
        String text = "0t9;1t8;2t7;3t6;4t5;5t4;6t3;7s2@06;0p1b;1p1dg;2t1k;3e9fhij;";
        Due.tell(t, text);
        byte[] bytes = text.getBytes(java.nio.charset.StandardCharsets.ISO_8859_1);
        for (int n = 0; n < bytes.length; n++) {
            p.feed(bytes[n], 1);
        }
        D.due("story", p.story(), 0);
        for (int corner = 0; corner < 8; corner += 7) {
            for (int what = 0; what < 4; what++) {
                D.due("check " + what + " from " + corner, t.check(0, corner, 6, true, what),
                    p.check(0, corner, 6, true, what));
            }
            D.due("quickest from " + corner, t.quickest(0, corner, 6, true), p.quickest(0, corner, 6, true));
            for (int i = 0; i < 8; i++) {
                D.due("route from " + corner, t.route(0, corner, 6, true, i), p.route(0, corner, 6, true, i));
            }
        }
    }
}
