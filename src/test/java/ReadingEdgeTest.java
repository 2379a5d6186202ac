/** The edges of the fifth term and of promises 20 and 24, sentence by sentence. */
public final class ReadingEdgeTest {
    private static final Due D = new Due();
    private static final int MOST = Integer.MAX_VALUE;
    private static final int LEAST = Integer.MIN_VALUE;

    public static void main(String[] args) {
        possibleUpToTheDoubt();
        placesFarOff();
        twiceByAWay();
        fourTimesElse();
        whichWaysCount();
        readingsNeedNotBeAlike();
        noOtherInBetween();
        whereItIsBeginsAnew();
        goingBeginsAnew();
        othersChangeNothing();
        thereAsIfItHadGone();
        cornersAtOnePlace();
        seenFindings();
        traceByThrees();
        traceUpToADoubt();
        traceUpToTheEnd();
        traceGoesOn();
        traceXThenY();
        traceFindings();
        D.end();
    }

    /** Corner 0 at 0, 0 and corner 1 at 99, 99, joined; a walker at one of them. */
    private static WalkTeller diagonal(int at) {
        WalkTeller t = new WalkTeller();
        t.corner(0, 0);
        t.corner(99, 99);
        t.way(0, 1, 1, false);
        Due.tell(t, "0p1l;");
        t.walker(at, true);
        return t;
    }

    /** A corner is POSSIBLE if the walker comes there by two readings. */
    private static void possible(int corner, int x, int y, int doubt, boolean is) {
        WalkTeller t = diagonal(1 - corner);
        D.due("once", t.seen(0, x, y, doubt), 1 - corner);
        D.due("corner " + corner + " at " + x + ", " + y + " with " + doubt, t.seen(0, x, y, doubt),
            is ? corner : 1 - corner);
    }

    private static void possibleUpToTheDoubt() {
        D.says("Terms 5: a DOUBT (0 to 30). POSSIBLE are CORNERS whose x and y each differ by DOUBT at most");
        for (int doubt : new int[] {0, 1, 2, 15, 29, 30}) {
            int[] offs = {-doubt - 1, -doubt, 0, doubt, doubt + 1};
            for (int dx : offs) {
                for (int dy : offs) {
                    boolean is = Math.abs(dx) <= doubt && Math.abs(dy) <= doubt;
                    possible(0, dx, dy, doubt, is);
                    possible(1, 99 + dx, 99 + dy, doubt, is);
                }
            }
        }
    }

    private static void placesFarOff() {
        D.says("Promise 20: x and y may be any int");
        int[] far = {LEAST, LEAST + 1, LEAST + 30, LEAST + 69, LEAST + 98, LEAST + 99, LEAST + 100, LEAST + 129,
            MOST, MOST - 1, MOST - 30, MOST - 99, -1000001, 256, 355, 65536, 65635, 1 << 30};
        for (int v : far) {
            for (int corner = 0; corner < 2; corner++) {
                possible(corner, v, 99 * corner, 30, false);
                possible(corner, 99 * corner, v, 30, false);
                possible(corner, v, v, 30, false);
            }
        }
    }

    /** Corners 0 to 4, 10 apart; ways 0-1 and 1-2, that with stairs; the walker at 0 goes without. */
    private static WalkTeller row() {
        WalkTeller t = Due.corners(5);
        t.way(0, 1, 7, false);
        t.way(2, 1, 7, true);
        Due.tell(t, "1p2;3p3;2e4;4s5@0;");
        t.walker(0, false);
        return t;
    }

    private static void see(WalkTeller t, int walker, int corner, int want) {
        D.due("walker " + walker + " seen at corner " + corner, t.seen(walker, 10 * corner, 0, 0), want);
    }

    private static void twiceByAWay() {
        D.says("Terms 5: if it was so twice, when a WAY by which the WALKER may go TODAY leads to it");
        WalkTeller t = row();
        see(t, 0, 1, 0);
        see(t, 0, 1, 1);
        D.says("Terms 5: the same from the WAY's other end");
        see(t, 0, 0, 1);
        see(t, 0, 0, 0);
    }

    private static void fourTimesElse() {
        D.says("Terms 5: or else four times");
        WalkTeller t = row();
        for (int corner : new int[] {3, 4, 2}) {
            int from = t.about(0, 0);
            see(t, 0, corner, from);
            see(t, 0, corner, from);
            see(t, 0, corner, from);
            see(t, 0, corner, corner);
        }
    }

    private static void whichWaysCount() {
        D.says("Terms 5: a WAY by which the WALKER may go TODAY leads to it");
        WalkTeller t = row();
        t.walker(1, true);
        t.walker(1, false);
        D.due("two ways are none", t.seen(0, 20, 0, 0), 0);
        see(t, 0, 2, 0);
        see(t, 0, 2, 0);
        see(t, 0, 2, 2);
        see(t, 1, 2, 1);
        see(t, 1, 2, 2);
        for (int n = 1; n <= 3; n++) {
            see(t, 2, 2, 1);
        }
        see(t, 2, 2, 2);
        D.says("Terms 5: .. TODAY: one that is SHUT does not count");
        for (int day = 0; day < 7; day++) {
            WalkTeller u = row();
            u.shut(0, 1 << 3);
            u.today(day);
            see(u, 0, 1, 0);
            see(u, 0, 1, day == 3 ? 0 : 1);
            if (day == 3) {
                see(u, 0, 1, 0);
                see(u, 0, 1, 1);
            }
        }
        D.says("Terms 5: of two WAYS one is enough");
        WalkTeller v = row();
        v.shut(0, 127);
        v.way(1, 0, 20, true);
        v.way(1, 0, 20, false);
        see(v, 0, 1, 0);
        see(v, 0, 1, 1);
    }

    private static void readingsNeedNotBeAlike() {
        D.says("Terms 5: If just one is POSSIBLE, and is not where the WALKER is: it was so once more");
        WalkTeller t = row();
        D.due("far off with a great doubt", t.seen(0, 10, -9, 9), 0);
        D.due("near by with a small one", t.seen(0, 11, 1, 1), 1);
        D.due("beyond the last corner", t.seen(0, 70, 30, 30), 1);
        D.due("and from the other side", t.seen(0, 44, -9, 9), 1);
        see(t, 0, 4, 1);
        D.due("a fourth time", t.seen(0, 65, 0, 25), 4);
    }

    private static void noOtherInBetween() {
        D.says("Terms 5: (no other one in between); another one alone makes all that was so begin anew");
        WalkTeller t = row();
        see(t, 0, 1, 0);
        see(t, 0, 3, 0);
        see(t, 0, 1, 0);
        see(t, 0, 3, 0);
        see(t, 0, 3, 0);
        see(t, 0, 3, 0);
        see(t, 0, 1, 0);
        see(t, 0, 3, 0);
        see(t, 0, 3, 0);
        see(t, 0, 3, 0);
        see(t, 0, 3, 3);
    }

    private static void whereItIsBeginsAnew() {
        D.says("Terms 5: the CORNER where it is is POSSIBLE (alone or not)");
        WalkTeller t = row();
        see(t, 0, 1, 0);
        see(t, 0, 0, 0);
        see(t, 0, 1, 0);
        D.due("both are possible", t.seen(0, 5, 0, 5), 0);
        see(t, 0, 1, 0);
        D.due("three are possible", t.seen(0, 10, 0, 10), 0);
        see(t, 0, 1, 0);
        D.due("all are possible", t.seen(0, 20, 0, 30), 0);
        see(t, 0, 1, 0);
        see(t, 0, 1, 1);
    }

    private static void goingBeginsAnew() {
        D.says("Terms 5: a going, makes all that was so begin anew");
        WalkTeller t = row();
        for (int n = 1; n <= 3; n++) {
            see(t, 0, 3, 0);
        }
        D.due("go", t.go(0, 0), 1);
        for (int n = 1; n <= 3; n++) {
            see(t, 0, 3, 1);
        }
        D.due("and back", t.go(0, 0), 0);
        see(t, 0, 3, 0);
        D.says("Terms 5: a going that is refused is none");
        see(t, 0, 3, 0);
        D.due("does not lead from here", t.go(0, 1), Due.NONE);
        D.due("no such way", t.go(0, 2), Due.BEYOND);
        see(t, 0, 3, 0);
        t.way(0, 2, 1, true);
        D.due("stairs", t.go(0, 2), Due.KIND);
        see(t, 0, 3, 3);
        D.says("Terms 5: a going of another WALKER is none");
        WalkTeller u = row();
        u.walker(0, true);
        see(u, 0, 1, 0);
        D.due("go", u.go(1, 0), 1);
        see(u, 1, 0, 1);
        see(u, 0, 1, 1);
        see(u, 1, 0, 0);
    }

    private static void othersChangeNothing() {
        D.says("Terms 5: others (none POSSIBLE, or several without it) change nothing");
        WalkTeller t = row();
        see(t, 0, 1, 0);
        D.due("none", t.seen(0, 15, 0, 4), 0);
        D.due("none, far off", t.seen(0, MOST, LEAST, 30), 0);
        D.due("two, the one among them", t.seen(0, 15, 0, 5), 0);
        D.due("two others", t.seen(0, 25, 0, 5), 0);
        D.due("four, the one among them", t.seen(0, 25, 0, 15), 0);
        see(t, 0, 1, 1);
        D.says("Terms 5: several without it do not count for any of them");
        for (int n = 0; n < 5; n++) {
            D.due("2 and 3", t.seen(0, 25, 0, 5), 1);
        }
        D.says("Terms 5: nor does what is no READING: TODAY, a WAY that is shut, another WALKER's");
        WalkTeller u = row();
        u.walker(0, false);
        see(u, 0, 1, 0);
        u.today(1);
        u.shut(0, 1);
        u.corner(99, 99);
        see(u, 1, 0, 0);
        see(u, 1, 3, 0);
        D.due("a finding", u.seen(0, 0, 0, 31), Due.BEYOND);
        see(u, 0, 1, 1);
    }

    private static void thereAsIfItHadGone() {
        D.says("Terms 5: the WALKER is there, in no TIME, as if it had gone");
        WalkTeller t = row();
        t.walker(0, true);
        see(t, 0, 1, 0);
        see(t, 0, 1, 1);
        D.due("heard", t.about(0, 1), 1);
        D.due("the piece takes its time, the way none", t.about(0, 2), 2);
        D.due("told last", t.about(0, 5), 0);
        D.due("it may go on from there", t.go(0, 0), 0);
        D.due("time", t.about(0, 2), 9);
        D.says("Terms 5: all that was so begins anew with it");
        see(t, 0, 1, 0);
        see(t, 0, 1, 1);
        see(t, 0, 0, 1);
        see(t, 0, 0, 0);
        D.says("Terms 5: an END that is told there ends the walk");
        D.due("go", t.go(1, 0), 1);
        see(t, 1, 2, 1);
        see(t, 1, 2, 2);
        D.due("over", t.about(1, 4), 1);
        D.due("over", t.seen(1, 0, 0, 0), Due.STATE);
        D.says("Terms 5: what is told there is what CAN be told TODAY");
        WalkTeller u = row();
        u.today(1);
        for (int n = 0; n < 4; n++) {
            u.seen(0, 40, 0, 0);
        }
        D.due("there", u.about(0, 0), 4);
        D.due("no song", u.about(0, 1), 0);
        u.today(0);
        D.due("the song", u.about(0, 1), 8);
    }

    private static void cornersAtOnePlace() {
        D.says("Terms 5: just one is POSSIBLE: never of two CORNERS at one place");
        WalkTeller t = new WalkTeller();
        t.corner(5, 5);
        t.corner(50, 50);
        t.corner(50, 50);
        t.way(0, 1, 1, false);
        Due.tell(t, "0p1l;");
        t.walker(0, true);
        t.walker(1, true);
        for (int n = 0; n < 6; n++) {
            D.due("one of two", t.seen(0, 50, 50, 0), 0);
            D.due("where it is, or the other", t.seen(1, 50, 50, 0), 1);
        }
        D.says("Terms 5: the only CORNER is where the WALKER is");
        WalkTeller u = Due.corners(1);
        Due.tell(u, "0p1l;");
        u.walker(0, true);
        for (int n = 0; n < 5; n++) {
            D.due("at it", u.seen(0, 0, 0, 0), 0);
            D.due("not at it", u.seen(0, 31, 0, 30), 0);
        }
    }

    private static void seenFindings() {
        D.says("Promise 20: BEYOND: no such WALKER, or doubt is not 0 to 30");
        WalkTeller t = Due.corners(2);
        D.due("no walkers", t.seen(0, 0, 0, 0), Due.BEYOND);
        t = row();
        t.walker(2, true);
        for (int v : Due.outside(0, 1)) {
            D.due("walker " + v, t.seen(v, 0, 0, 0), Due.BEYOND);
        }
        for (int v : Due.outside(0, 30)) {
            D.due("doubt " + v, t.seen(0, 0, 0, v), Due.BEYOND);
        }
        D.due("doubt 0", t.seen(0, 0, 0, 0), 0);
        D.due("doubt 30", t.seen(0, 0, 0, 30), 0);
        D.says("Promise 20: STATE: its walk is over");
        D.due("over", t.seen(1, 20, 0, 0), Due.STATE);
        D.says("Promise 20: BEYOND is asked ahead of STATE");
        D.due("over, doubt 31", t.seen(1, 20, 0, 31), Due.BEYOND);
        D.due("over, doubt -1", t.seen(1, 20, 0, -1), Due.BEYOND);
    }

    private static void fill(WalkTeller t, int s, int bits, int... numbers) {
        t.sheet(s, bits, numbers.length);
        for (int i = 0; i < numbers.length; i++) {
            t.write(s, i, numbers[i]);
        }
    }

    private static void traceByThrees() {
        D.says("Promise 24: Numbers of a sheet, three by three, up to the first that is not whole: how many were");
        for (int bits = 8; bits <= 32; bits *= 2) {
            for (int n = 0; n <= 12; n++) {
                WalkTeller t = row();
                t.sheet(0, bits, n);
                D.due(n + " numbers of " + bits + " bits", t.trace(0, 0), n / 3);
            }
        }
        D.says("Promise 24: one that is not whole is no READING");
        WalkTeller t = row();
        fill(t, 0, 8, 10, 0, 0, 10, 0);
        D.due("one and a bit", t.trace(0, 0), 1);
        D.due("seen once", t.about(0, 0), 0);
        fill(t, 0, 8, 10, 0);
        D.due("a bit", t.trace(0, 0), 0);
        D.due("still once", t.about(0, 0), 0);
        see(t, 0, 1, 1);
    }

    private static void traceUpToADoubt() {
        D.says("Promise 24: up to the first that can't be (DOUBT is not 0 to 30)");
        for (int v : Due.outside(0, 30)) {
            WalkTeller t = row();
            fill(t, 2, 32, 10, 0, v, 10, 0, 0, 10, 0, 0);
            D.due("first doubt " + v, t.trace(2, 0), 0);
            fill(t, 2, 32, 10, 0, 0, 10, 0, v, 10, 0, 0);
            D.due("second doubt " + v, t.trace(2, 0), 1);
            D.due("none behind it", t.about(0, 0), 0);
            fill(t, 2, 32, 10, 0, 0, 0, 0, v);
            D.due("second doubt " + v + ", again", t.trace(2, 0), 1);
            D.due("the one ahead of it was", t.about(0, 0), 1);
            D.due("no finding", t.told(6), 0);
        }
        WalkTeller t = row();
        fill(t, 0, 8, 0, 0, 0, 0, 0, 30, 0, 0, 31, 0, 0, 0);
        D.due("0 and 30, not 31", t.trace(0, 0), 2);
        fill(t, 0, 8, 0, 0, 30, 0, 0, -1);
        D.due("not -1", t.trace(0, 0), 1);
        fill(t, 0, 16, 0, 0, 65536 + 5, 0, 0, 256);
        D.due("a doubt is its lowest bits", t.trace(0, 0), 1);
    }

    private static void traceUpToTheEnd() {
        D.says("Promise 24: up to the first that can't be (its walk is over)");
        WalkTeller t = row();
        t.walker(1, true);
        t.walker(2, true);
        fill(t, 1, 16, 20, 0, 0, 20, 0, 0, 10, 0, 0, 10, 0, 0);
        D.due("over from the first on", t.trace(1, 2), 0);
        D.due("over behind the second", t.trace(1, 1), 2);
        D.due("and there", t.about(1, 0), 2);
        D.due("over now", t.trace(1, 1), 0);
        fill(t, 3, 8, 20, 0, 0, 20, 0, 0, 20, 0, 0, 20, 0, 0);
        D.due("over with the last one", t.trace(3, 0), 4);
        D.due("over", t.about(0, 4), 1);
        t.sheet(3, 8, 2);
        D.due("over, and none whole", t.trace(3, 0), 0);
        D.due("no findings", t.told(6), 0);
    }

    private static void traceGoesOn() {
        D.says("Promise 24: READINGS of a WALKER, one behind the other");
        WalkTeller t = row();
        fill(t, 0, 8, 10, 0, 0, 10, 0, 0, 0, 0, 0, 0, 0, 0);
        D.due("there and back", t.trace(0, 0), 4);
        D.due("at 0", t.about(0, 0), 0);
        D.due("was at 1", t.about(0, 1), 1);
        fill(t, 0, 8, 30, 0, 0, 30, 0, 0);
        D.due("twice", t.trace(0, 0), 2);
        see(t, 0, 3, 0);
        D.due("a third and a fourth time", t.trace(0, 0), 2);
        D.due("at 3 from the fourth on", t.about(0, 0), 3);
        D.due("the sheet is as it was", t.write(0, 0, 5), 30);
        fill(t, 1, 32, MOST, LEAST, 30, LEAST, MOST, 0, LEAST, 0, 30, 30, MOST, 30);
        D.due("places far off", t.trace(1, 0), 4);
        D.due("still at 3", t.about(0, 0), 3);
        fill(t, 2, 8, -20, 0, 20, -30, 0, 30, -1, -1, 1, -30, -30, 30);
        D.due("numbers below 0", t.trace(2, 0), 4);
        D.due("at 0 by the fourth", t.about(0, 0), 0);
    }

    private static void traceXThenY() {
        D.says("Promise 24: three by three, are READINGS (x, y, DOUBT)");
        int[][] readings = {{99, 69, 30}, {129, 99, 30}, {99, 98, 0}, {0, 99, 30}, {99, 0, 30}, {30, 99, 99}};
        for (int n = 0; n < readings.length; n++) {
            WalkTeller t = diagonal(0);
            int[] r = readings[n];
            fill(t, 0, 16, r[0], r[1], r[2], r[0], r[1], r[2]);
            D.due("reading " + n, t.trace(0, 0), r[2] <= 30 ? 2 : 0);
            D.due("reading " + n + ": there", t.about(0, 0), n < 2 ? 1 : 0);
        }
    }

    private static void traceFindings() {
        D.says("Promise 24: BEYOND: no such sheet, or WALKER. MISSING");
        WalkTeller t = row();
        t.sheet(0, 8, 3);
        t.sheet(3, 8, 0);
        for (int v : Due.outside(0, 3)) {
            D.due("sheet " + v, t.trace(v, 0), Due.BEYOND);
        }
        for (int v : Due.outside(0, 0)) {
            D.due("walker " + v, t.trace(0, v), Due.BEYOND);
            D.due("walker " + v + " ahead of MISSING", t.trace(1, v), Due.BEYOND);
        }
        D.due("missing", t.trace(1, 0), Due.MISSING);
        D.due("missing", t.trace(2, 0), Due.MISSING);
        D.due("no numbers is not missing", t.trace(3, 0), 0);
        t.sheet(0, 0, 0);
        D.due("missing again", t.trace(0, 0), Due.MISSING);
        t.go(0, 0);
        t.walker(2, true);
        D.due("missing, though the walk is over", t.trace(1, 1), Due.MISSING);
    }
}
