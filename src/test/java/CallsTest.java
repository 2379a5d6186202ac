/**
 * "An object is used for at most 512 calls after it has been made": each act as often as that, and
 * the 512th call is answered as promised. What later calls answer is free, so none is asked.
 */
public final class CallsTest {
    private static final int CALLS = 512;
    private static final Due D = new Due();

    public static void main(String[] args) {
        refused();
        findingsCounted();
        tapes();
        texts();
        goings();
        daysAndWays();
        readings();
        sheets();
        walks();
        D.end();
    }

    private static void refused() {
        D.says("512 calls of corner, then of way, all but the first ones FULL");
        WalkTeller t = new WalkTeller();
        for (int n = 0; n < CALLS; n++) {
            D.due("corner " + n, t.corner(n % 100, 99 - n % 100), n < 8 ? n : Due.FULL);
        }
        WalkTeller u = Due.corners(2);
        for (int n = 2; n < CALLS; n++) {
            D.due("way " + n, u.way(n % 2, 1 - n % 2, 1 + n % 20, false), n < 16 ? n - 2 : Due.FULL);
        }
        WalkTeller v = Due.corners(1);
        Due.tell(v, "0p1;");
        for (int n = 3; n < CALLS; n++) {
            D.due("walker " + n, v.walker(0, true), n < 9 ? n - 3 : Due.FULL);
        }
    }

    private static void findingsCounted() {
        D.says("told(6) behind 511 findings");
        WalkTeller t = new WalkTeller();
        for (int n = 1; n < CALLS; n++) {
            D.due("told(7)", t.told(7), Due.BEYOND);
        }
        D.due("told(6)", t.told(6), CALLS - 1);
    }

    private static void tapes() {
        D.says("512 calls of feed: 200 of one byte, the others FULL");
        WalkTeller t = new WalkTeller();
        for (int n = 1; n <= CALLS; n++) {
            D.due("feed " + n, t.feed(n, 1), n <= 200 ? n : Due.FULL);
        }
    }

    private static void texts() {
        D.says("512 calls of feed and story by turns");
        WalkTeller t = Due.corners(1);
        Due.tell(t, "0p1;");
        for (int n = 3; n + 1 < CALLS; n += 2) {
            D.due("feed " + n, t.feed(0x3B326530L, 4), 4);
            int edition = (n - 1) / 2;
            D.due("story " + n, t.story(), edition < 4 ? edition : Due.FULL);
        }
        D.due("told(2)", t.told(2), 4);
        WalkTeller u = new WalkTeller();
        for (int n = 0; n < CALLS; n++) {
            D.due("story of nothing", u.story(), Due.WRONG);
        }
    }

    private static void goings() {
        D.says("a walker's TIME behind as many goings as there can be");
        WalkTeller t = Due.corners(2);
        t.way(0, 1, 20, true);
        Due.tell(t, "1p9;");
        t.walker(0, true);
        int gone = 0;
        for (int n = 6; n + 2 < CALLS; n++) {
            D.due("go", t.go(0, 0), gone == 0 ? 1 : 0);
            gone++;
        }
        D.due("time", t.about(0, 2), 20 * gone + 9);
        D.due("corner", t.about(0, 0), gone % 2);
    }

    private static void daysAndWays() {
        D.says("512 calls of today and shut");
        WalkTeller t = Due.street(2);
        for (int n = 3; n + 1 < CALLS; n += 2) {
            D.due("today", t.today(n % 7), n == 3 ? 0 : (n - 2) % 7);
            D.due("shut", t.shut(0, n % 128), n == 3 ? 0 : (n - 2) % 128);
        }
    }

    private static void readings() {
        D.says("readings that are none, between two that bring the walker there");
        WalkTeller t = Due.street(2);
        Due.tell(t, "1e1;");
        t.walker(0, true);
        D.due("once", t.seen(0, 10, 0, 0), 0);
        for (int n = 7; n + 1 < CALLS; n++) {
            D.due("none possible", t.seen(0, n, 99, 30), 0);
        }
        D.due("twice", t.seen(0, 10, 0, 0), 1);
        WalkTeller u = Due.street(3);
        Due.tell(u, "1p1l;");
        u.walker(0, true);
        for (int n = 8; n < CALLS; n++) {
            D.due("there and back", u.seen(0, (n / 2 + 1) % 2 * 10, 0, 0), (n + 1) / 2 % 2);
        }
    }

    private static void sheets() {
        D.says("512 calls of sheet, write, copy and trace");
        WalkTeller t = Due.corners(1);
        Due.tell(t, "0p1;");
        t.walker(0, true);
        int made = 4;
        while (made + 8 <= CALLS) {
            D.due("sheet", t.sheet(0, 32, 12), 12);
            D.due("sheet", t.sheet(1, 32, 12), 12);
            D.due("write", t.write(0, 11, made), 0);
            D.due("copy", t.copy(0, 0, 1, 0, 12), 12);
            D.due("write", t.write(1, 11, 0), made);
            D.due("trace", t.trace(1, 0), 4);
            D.due("sheet", t.sheet(1, 0, 0), 0);
            D.due("trace", t.trace(1, 0), Due.MISSING);
            made += 8;
        }
    }

    private static void walks() {
        D.says("the dearest questions as often as there can be");
        WalkTeller t = Due.street(8);
        Due.tell(t, "7p9;0p9a;7p9b;0p9c;7p9d;0p9e;7p9f;0p9g;7p9h;0p9i;7p9j;0e9k;");
        t.walker(1, true);
        int made = 15 + 9 + 1;
        while (made + 8 <= CALLS) {
            D.due("check 0", t.check(0, 1, 0, true, 0), 8 * 12 + 1);
            D.due("check 1", t.check(0, 1, 0, true, 1), 0);
            D.due("check 3", t.check(0, 1, 0, true, 3), 4095);
            D.due("quickest", t.quickest(0, 1, 0, true), 6 + 77 + 108);
            D.due("route", t.route(0, 1, 0, true, 82), 0);
            D.due("offer", t.offer(0), 2);
            D.due("rest", t.rest(0), 6 + 77 + 108);
            D.due("lost", t.lost(0), 0);
            made += 8;
        }
    }
}
