/** Promises 10 to 12: check, quickest, route. */
public final class WalkTest {
    private static final Due D = new Due();

    public static void main(String[] args) {
        momentsOfAStreet();
        deadEnds();
        twoVoices();
        needs();
        songsHaveDays();
        anOverWalkGoesNoFurther();
        quickest();
        routeTakesTheLesserCorner();
        routeGoesBack();
        whatCanBeToldIsTold();
        wrongInputs();
        D.end();
    }

    private static void momentsOfAStreet() {
        WalkTeller t = Due.street(3);
        Due.tell(t, "2e4;");
        D.due("0, 1, 2 and the end", t.check(0, 0, 0, true, 0), 4);
        D.due("dead ends", t.check(0, 0, 0, true, 1), 0);
        D.due("heard", t.check(0, 0, 0, true, 3), 1);
        D.due("from the end's corner", t.check(0, 2, 0, true, 0), 2);
        t.shut(1, 1 << 3);
        D.due("shut on day 3", t.check(0, 0, 3, true, 0), 2);
        D.due("dead ends on day 3", t.check(0, 0, 3, true, 1), 2);
        D.due("heard on day 3", t.check(0, 0, 3, true, 3), 0);
        D.due("open on day 2", t.check(0, 0, 2, true, 0), 4);
    }

    private static void deadEnds() {
        WalkTeller t = Due.corners(3);
        t.way(0, 1, 1, false);
        t.way(1, 2, 1, true);
        // The song at 1 comes ahead of the end at 2; no end needs it, one piece needs what is not.
        Due.tell(t, "1s1;2e1a;0p1l;");
        D.due("with stairs", t.check(0, 0, 0, true, 1), 0);
        D.due("without: 0, 1, and both behind the song", t.check(0, 0, 0, false, 1), 4);
        D.due("without: how many", t.check(0, 0, 0, false, 0), 4);
        D.due("without: heard", t.check(0, 0, 0, false, 3), 1);
        D.due("with: heard", t.check(0, 0, 0, true, 3), 3);
    }

    private static void twoVoices() {
        WalkTeller t = Due.street(2);
        Due.tell(t, "0p1;0p1;0p1;1e1;1e1;");
        D.due("three, two of them; both ends", t.check(0, 0, 0, true, 2), 3);
        D.due("from the ends: not over", t.check(0, 1, 0, true, 2), 1);
        D.due("from the ends: how many", t.check(0, 1, 0, true, 0), 2);
    }

    private static void needs() {
        WalkTeller t = Due.corners(1);
        Due.tell(t, "0p1;0p1l;0s1ab;0t1bc;0e1d;0e1ai;");
        D.due("all of a piece, one of an end", t.check(0, 0, 0, true, 3), 1 | 32);
        Due.tell(t, "0p1c;0t1al;0t1;0t1e;0e1d;");
        Due.tell(t, "0e1a;");
        D.due("a turn with none, one with itself", t.check(1, 0, 0, true, 3), 1 | 2 | 4);
        D.due("an end that can't be come to", t.quickest(1, 0, 0, true), Due.NONE);
        Due.tell(t, "0p1;0s1a;0t1b;");
        D.due("all heard, and no end among them", t.quickest(3, 0, 0, true), Due.NONE);
        D.due("four dead ends", t.check(3, 0, 0, true, 1), 4);
        D.due("an end that needs itself", t.check(2, 0, 0, true, 3), 0);
        D.due("is a dead end", t.check(2, 0, 0, true, 1), 1);
    }

    private static void songsHaveDays() {
        WalkTeller t = Due.corners(1);
        Due.tell(t, "0s1@16;0e2a;");
        for (int day = 0; day < 7; day++) {
            boolean sung = day == 1 || day == 6;
            D.due("quickest on " + day, t.quickest(0, 0, day, false), sung ? 3 : Due.NONE);
            D.due("moments on " + day, t.check(0, 0, day, false, 0), sung ? 3 : 1);
        }
    }

    private static void anOverWalkGoesNoFurther() {
        WalkTeller t = Due.street(3);
        Due.tell(t, "1e1;1p1;2p1;");
        D.due("0, 1, over at 1", t.check(0, 0, 0, true, 0), 3);
        D.due("heard", t.check(0, 0, 0, true, 3), 1);
        D.due("from behind it: 2, told, 1, over", t.check(0, 2, 0, true, 0), 4);
        D.due("two voices at 1", t.check(0, 2, 0, true, 2), 1);
    }

    private static void quickest() {
        WalkTeller t = Due.corners(4);
        t.way(0, 1, 2, false);
        t.way(1, 3, 2, true);
        t.way(0, 2, 3, false);
        t.way(2, 3, 4, false);
        t.way(2, 3, 9, false);
        Due.tell(t, "3e5;1p9;");
        D.due("the piece at 1 takes longer", t.quickest(0, 0, 0, true), 12);
        D.due("by 2", t.route(0, 0, 0, true, 0), 2);
        D.due("then 3", t.route(0, 0, 0, true, 1), 3);
        D.due("then none", t.route(0, 0, 0, true, 2), -1);
        D.due("then none, either", t.route(0, 0, 0, true, Integer.MAX_VALUE), -1);
        t.shut(3, 2);
        D.due("the longer one of two", t.quickest(0, 2, 1, false), 14);
        D.due("by 2 all the same: 3 + 9 + 5, not 2 + 9 + 2 + 5", t.quickest(0, 0, 1, true), 17);
        t.shut(4, 2);
        D.due("by 1, as both are shut", t.quickest(0, 0, 1, true), 18);
        D.due("at the end", t.quickest(0, 3, 0, true), 5);
        D.due("no going there", t.route(0, 3, 0, true, 0), -1);
        D.due("no findings", t.told(6), 0);
    }

    private static void routeTakesTheLesserCorner() {
        WalkTeller t = Due.corners(6);
        t.way(0, 3, 2, false);
        t.way(3, 5, 4, false);
        t.way(0, 2, 5, false);
        t.way(2, 5, 1, false);
        t.way(0, 4, 1, false);
        t.way(4, 5, 5, false);
        t.way(3, 1, 1, false);
        t.way(1, 5, 3, false);
        Due.tell(t, "5e1;");
        D.due("time", t.quickest(0, 0, 0, true), 7);
        D.due("the lesser first corner", t.route(0, 0, 0, true, 0), 2);
        D.due("then 5", t.route(0, 0, 0, true, 1), 5);
        t.shut(2, 1);
        D.due("else 3", t.route(0, 0, 0, true, 0), 3);
        D.due("then 1, by a detour as long", t.route(0, 0, 0, true, 1), 1);
        D.due("then 5", t.route(0, 0, 0, true, 2), 5);
        D.due("then none", t.route(0, 0, 0, true, 3), -1);
    }

    private static void routeGoesBack() {
        WalkTeller t = Due.street(4);
        Due.tell(t, "3p1;0p1a;3e1b;");
        int[] want = {3, 2, 1, 0, 1, 2, 3, -1, -1};
        D.due("time", t.quickest(0, 2, 0, true), 10);
        t.way(2, 3, 7, true);
        for (int i = 0; i + 1 < want.length; i++) {
            D.due("corner " + i, t.route(0, 2, 0, true, i), want[i]);
        }
        D.due("moments: four corners, three times, and the end", t.check(0, 2, 0, true, 0), 13);
    }

    /** At corner 0 a long piece must be heard ahead of going on, though the end is near. */
    private static void whatCanBeToldIsTold() {
        WalkTeller t = Due.corners(3);
        t.way(1, 0, 1, false);
        t.way(0, 2, 1, false);
        t.way(1, 2, 20, false);
        Due.tell(t, "0p9;2e1;");
        D.due("1 + 9 + 1 + 1", t.quickest(0, 1, 0, true), 12);
        D.due("by 0", t.route(0, 1, 0, true, 0), 0);
        D.due("0, 1 and 2 without, all with it, and two ends", t.check(0, 1, 0, true, 0), 8);
        Due.tell(t, "0p9;2e1;0p9;");
        D.due("1 + 18 + 1 + 1 is as long as 20 + 1: the lesser corner", t.route(1, 1, 0, true, 0), 0);
        Due.tell(t, "0p9;2e1;0p9;0p1;");
        D.due("the long way now", t.quickest(2, 1, 0, true), 21);
        D.due("to 2", t.route(2, 1, 0, true, 0), 2);
    }

    private static void wrongInputs() {
        WalkTeller t = Due.street(2);
        Due.tell(t, "1e1;");
        int[][] beyond = {{1, 0, 0}, {-1, 0, 0}, {0, 2, 0}, {0, -1, 0}, {0, 0, 7}, {0, 0, -1}};
        for (int[] b : beyond) {
            String of = b[0] + ", " + b[1] + ", " + b[2];
            D.due("check " + of, t.check(b[0], b[1], b[2], true, 0), Due.BEYOND);
            D.due("quickest " + of, t.quickest(b[0], b[1], b[2], true), Due.BEYOND);
            D.due("route " + of, t.route(b[0], b[1], b[2], true, 0), Due.BEYOND);
        }
        D.due("no what 4", t.check(0, 0, 0, true, 4), Due.BEYOND);
        D.due("no what -1", t.check(0, 0, 0, true, -1), Due.BEYOND);
        D.due("i -1", t.route(0, 0, 0, true, -1), Due.BEYOND);
        t.shut(0, 1);
        D.due("none", t.quickest(0, 0, 0, true), Due.NONE);
        D.due("route none", t.route(0, 0, 0, true, 5), Due.NONE);
        D.due("i -1 ahead of none", t.route(0, 0, 0, true, -1), Due.BEYOND);
        D.due("check tells no none", t.check(0, 0, 0, true, 1), 1);
        D.due("findings", t.told(6), 24);
    }
}
