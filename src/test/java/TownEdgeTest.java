/** The edges of the first term and of promises 1 to 5, sentence by sentence. */
public final class TownEdgeTest {
    private static final Due D = new Due();

    public static void main(String[] args) {
        nothingAtFirst();
        atMostEightCorners();
        placesAreNoughtTo99();
        atMostFourteenWays();
        waysJoinUnlikeCorners();
        lengthsAreOneToTwenty();
        daysAreASet();
        shutFindings();
        noWayWithStairsWithout();
        farToItself();
        farIsTheLeastSum();
        farFindings();
        D.end();
    }

    private static void nothingAtFirst() {
        D.says("Promise 1: No CORNERS, WAYS, EDITIONS, WALKERS; an empty tape; sheets MISSING");
        WalkTeller t = new WalkTeller();
        for (int what = 0; what <= 6; what++) {
            D.due("told(" + what + ")", t.told(what), 0);
        }
        D.due("no corner 0", t.far(0, 0, 0, true), Due.BEYOND);
        D.due("no corner 0 for a walker", t.walker(0, true), Due.BEYOND);
        D.due("no way 0", t.shut(0, 0), Due.BEYOND);
        D.due("no edition 0", t.as(0, 0, 0), Due.BEYOND);
        D.due("no walker 0", t.lost(0), Due.BEYOND);
        D.due("the empty tape is wrong at 0", t.story(), Due.WRONG);
        for (int s = 0; s < 4; s++) {
            D.due("sheet " + s, t.write(s, 0, 0), Due.MISSING);
        }
        D.due("findings", t.told(6), 10);
        D.due("the first byte", t.feed(0, 1), 1);
        D.due("today was 0", t.today(0), 0);
    }

    private static void atMostEightCorners() {
        D.says("Terms 1: CORNERS 0, 1, .. (at most 8); Promise 2: its number. FULL");
        WalkTeller t = new WalkTeller();
        for (int n = 0; n < 8; n++) {
            D.due("corner " + n, t.corner(0, 0), n);
            D.due("corners", t.told(0), n + 1);
        }
        for (int n = 0; n < 3; n++) {
            D.due("no more", t.corner(99, 99), Due.FULL);
        }
        D.due("eight", t.told(0), 8);
        D.due("the eighth is there", t.far(7, 7, 0, true), 0);
        D.due("a ninth is not", t.far(8, 8, 0, true), Due.BEYOND);
        D.says("Promise 2: BEYOND is asked ahead of FULL");
        D.due("x", t.corner(100, 0), Due.BEYOND);
        D.due("y", t.corner(0, -1), Due.BEYOND);
    }

    private static void placesAreNoughtTo99() {
        D.says("Terms 1: at a place x, y (0 to 99 each); Promise 2: BEYOND: x or y is not as told");
        WalkTeller t = new WalkTeller();
        for (int v : Due.outside(0, 99)) {
            D.due("x " + v, t.corner(v, 50), Due.BEYOND);
            D.due("y " + v, t.corner(50, v), Due.BEYOND);
            D.due("both " + v, t.corner(v, v), Due.BEYOND);
        }
        D.due("no corner came of it", t.told(0), 0);
        int[][] places = {{50, 50}, {0, 0}, {99, 0}, {0, 99}, {99, 99}};
        for (int n = 0; n < places.length; n++) {
            D.due("corner", t.corner(places[n][0], places[n][1]), n);
        }
        Due.tell(t, "0p1;");
        for (int n = 1; n < places.length; n++) {
            int walker = t.walker(0, true);
            for (int sights = 1; sights <= 4; sights++) {
                int answer = t.seen(walker, places[n][0], places[n][1], 0);
                D.due("corner " + n + " is where it was put", answer, sights < 4 ? 0 : n);
            }
        }
    }

    private static void atMostFourteenWays() {
        D.says("Terms 1: WAYS 0, 1, .. (at most 14); Promise 3: its number. FULL");
        WalkTeller t = Due.corners(2);
        for (int n = 0; n < 14; n++) {
            D.due("way " + n, t.way(n % 2, 1 - n % 2, 20 - n, n % 2 == 1), n);
            D.due("ways", t.told(1), n + 1);
        }
        D.due("a fifteenth", t.way(0, 1, 1, false), Due.FULL);
        D.due("and again", t.way(1, 0, 20, true), Due.FULL);
        D.due("fourteen", t.told(1), 14);
        D.due("the last one counts", t.far(0, 1, 0, true), 7);
        D.due("the last one is there", t.shut(13, 127), 0);
        D.due("a fifteenth is not", t.shut(14, 0), Due.BEYOND);
        D.due("the one ahead of it counts then", t.far(0, 1, 0, true), 8);
        D.says("Promise 3: BEYOND is asked ahead of FULL");
        D.due("no such corner", t.way(0, 2, 1, false), Due.BEYOND);
        D.due("they are one", t.way(1, 1, 1, false), Due.BEYOND);
        D.due("length", t.way(0, 1, 21, false), Due.BEYOND);
    }

    private static void waysJoinUnlikeCorners() {
        D.says("Promise 3: BEYOND: no such CORNER (either), they are one");
        WalkTeller t = new WalkTeller();
        D.due("no corners", t.way(0, 1, 1, false), Due.BEYOND);
        t.corner(5, 5);
        D.due("one corner", t.way(0, 1, 1, false), Due.BEYOND);
        D.due("one corner, from behind", t.way(1, 0, 1, false), Due.BEYOND);
        D.due("one corner, itself", t.way(0, 0, 1, false), Due.BEYOND);
        for (int n = 1; n < 8; n++) {
            t.corner(5, 5);
        }
        for (int v : Due.outside(0, 7)) {
            D.due("a " + v, t.way(v, 0, 1, false), Due.BEYOND);
            D.due("b " + v, t.way(0, v, 1, false), Due.BEYOND);
            D.due("both " + v, t.way(v, v, 1, false), Due.BEYOND);
        }
        for (int n = 0; n < 8; n++) {
            D.due("they are " + n, t.way(n, n, 1, false), Due.BEYOND);
        }
        D.due("no way came of it", t.told(1), 0);
        D.due("the first and the last", t.way(0, 7, 1, false), 0);
        D.due("the last and the first", t.way(7, 0, 1, false), 1);
        D.due("corners at one place are unlike", t.way(3, 4, 1, false), 2);
    }

    private static void lengthsAreOneToTwenty() {
        D.says("Terms 1: a LENGTH (1 to 20); Promise 3: BEYOND: length is not as told");
        WalkTeller t = Due.corners(3);
        for (int v : Due.outside(1, 20)) {
            D.due("length " + v, t.way(0, 1, v, false), Due.BEYOND);
        }
        D.due("no way came of it", t.told(1), 0);
        D.due("length 1", t.way(0, 1, 1, false), 0);
        D.due("length 20", t.way(1, 2, 20, true), 1);
        D.due("1", t.far(0, 1, 0, false), 1);
        D.due("20", t.far(1, 2, 0, true), 20);
        D.due("21", t.far(0, 2, 0, true), 21);
    }

    private static void daysAreASet() {
        D.says("Terms 1: DAYS (a set of 0 to 6) on which they are SHUT (none at first); Promise 4: what they were");
        WalkTeller t = Due.street(2);
        int before = 0;
        int[] sets = {127, 0, 1, 64, 2, 32, 4, 16, 8, 126, 63, 85, 42};
        for (int days : sets) {
            D.due("shut(0, " + days + ")", t.shut(0, days), before);
            before = days;
            for (int day = 0; day < 7; day++) {
                boolean isShut = (days >> day & 1) == 1;
                D.due(days + " on " + day, t.far(1, 0, day, false), isShut ? Due.NONE : 1);
            }
        }
    }

    private static void shutFindings() {
        D.says("Promise 4: BEYOND: no such WAY, or days is not 0 to 127");
        WalkTeller t = new WalkTeller();
        D.due("no ways", t.shut(0, 0), Due.BEYOND);
        t = Due.street(3);
        D.due("way 1 on day 2", t.shut(1, 4), 0);
        for (int v : Due.outside(0, 1)) {
            D.due("way " + v, t.shut(v, 5), Due.BEYOND);
        }
        for (int v : Due.outside(0, 127)) {
            D.due("days " + v, t.shut(1, v), Due.BEYOND);
        }
        D.due("both", t.shut(2, 128), Due.BEYOND);
        D.due("way 0 is as it was", t.shut(0, 127), 0);
        D.due("way 1 is as it was", t.shut(1, 127), 4);
    }

    private static void noWayWithStairsWithout() {
        D.says("Terms 1: Whoever goes without STAIRS goes by no WAY that has some");
        WalkTeller t = Due.corners(2);
        t.way(0, 1, 7, true);
        Due.tell(t, "1e1;");
        t.walker(0, false);
        t.walker(0, true);
        D.due("far without", t.far(0, 1, 0, false), Due.NONE);
        D.due("far with", t.far(0, 1, 0, true), 7);
        D.due("check without", t.check(0, 0, 0, false, 0), 1);
        D.due("check with", t.check(0, 0, 0, true, 0), 3);
        D.due("quickest without", t.quickest(0, 0, 0, false), Due.NONE);
        D.due("quickest with", t.quickest(0, 0, 0, true), 8);
        D.due("route without", t.route(0, 0, 0, false, 0), Due.NONE);
        D.due("route with", t.route(0, 0, 0, true, 0), 1);
        D.due("go without", t.go(0, 0), Due.KIND);
        D.due("offer without", t.offer(0), Due.NONE);
        D.due("offer with", t.offer(1), 1);
        D.due("rest without", t.rest(0), Due.NONE);
        D.due("rest with", t.rest(1), 8);
        D.due("lost without", t.lost(0), 1);
        D.due("lost with", t.lost(1), 0);
        D.due("go with", t.go(1, 0), 1);
        D.says("Terms 1: with STAIRS one goes by WAYS that have none, too");
        t = Due.street(2);
        D.due("far with", t.far(0, 1, 0, true), 1);
        Due.tell(t, "1e1;");
        t.walker(0, true);
        D.due("go with", t.go(0, 0), 1);
    }

    private static void farToItself() {
        D.says("Promise 5: (0 to itself)");
        WalkTeller t = Due.corners(8);
        t.way(0, 1, 1, true);
        t.shut(0, 127);
        for (int n = 0; n < 8; n++) {
            D.due("corner " + n, t.far(n, n, n % 7, n % 2 == 0), 0);
        }
        D.due("no findings", t.told(6), 0);
    }

    private static void farIsTheLeastSum() {
        D.says("Promise 5: The least sum of LENGTHS of WAYS that are not SHUT on a DAY");
        WalkTeller t = Due.corners(8);
        for (int n = 7; n > 0; n--) {
            t.way(n - 1, n, 20, false);
        }
        D.due("seven ways of 20", t.far(0, 7, 0, false), 140);
        D.due("and back", t.far(7, 0, 6, true), 140);
        t.way(0, 2, 20, false);
        t.shut(7, 1 << 6);
        D.due("one way less", t.far(0, 7, 5, false), 120);
        D.due("but on the day that it is shut", t.far(0, 7, 6, false), 140);
        t.way(7, 0, 20, true);
        D.due("by one with stairs", t.far(0, 7, 0, true), 20);
        D.due("not without", t.far(0, 7, 0, false), 120);
        t.way(7, 0, 1, false);
        D.due("the lesser of two between the same", t.far(7, 0, 0, true), 1);
        D.due("1 + 20 + 20 by 7 and 6 is less than 80 by 2, 3 and 4", t.far(0, 5, 0, true), 41);
        D.says("Promise 5: the least sum, though each has a straight WAY, too");
        WalkTeller u = Due.street(8);
        for (int n = 0; n < 7; n++) {
            u.way(n, 7, 20, false);
        }
        for (int n = 0; n < 8; n++) {
            D.due("from " + n + " to 7", u.far(n, 7, 0, false), 7 - n);
            D.due("from 7 to " + n, u.far(7, n, 0, false), 7 - n);
        }
    }

    private static void farFindings() {
        D.says("Promise 5: BEYOND: no such CORNER (either), or DAY. NONE: there is none");
        WalkTeller t = Due.corners(3);
        t.way(0, 1, 3, false);
        for (int v : Due.outside(0, 2)) {
            D.due("a " + v, t.far(v, 0, 0, true), Due.BEYOND);
            D.due("b " + v, t.far(0, v, 0, true), Due.BEYOND);
            D.due("both " + v, t.far(v, v, 0, true), Due.BEYOND);
        }
        for (int v : Due.outside(0, 6)) {
            D.due("day " + v, t.far(0, 1, v, true), Due.BEYOND);
            D.due("to itself on day " + v, t.far(1, 1, v, true), Due.BEYOND);
        }
        D.due("day 0", t.far(0, 1, 0, true), 3);
        D.due("day 6", t.far(0, 1, 6, true), 3);
        D.due("no way to 2", t.far(0, 2, 0, true), Due.NONE);
        D.due("no way from 2", t.far(2, 0, 6, true), Due.NONE);
        D.says("Promise 5: BEYOND is asked ahead of NONE");
        D.due("no day, and no way", t.far(0, 2, 7, true), Due.BEYOND);
        D.due("no day, and no way", t.far(2, 0, -1, true), Due.BEYOND);
    }
}
