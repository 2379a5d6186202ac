/** Promises 20 and 24: seen, trace. */
public final class ReadingTest {
    private static final Due D = new Due();

    public static void main(String[] args) {
        twiceByAWay();
        fourTimesWithoutAWay();
        stairsAndShutWaysDoNotCount();
        whatBeginsAnew();
        whatChangesNothing();
        aWayOpensInBetween();
        asIfItHadGone();
        doubtReachesJustSoFar();
        anyPlace();
        seenFindings();
        trace();
        traceStops();
        traceFindings();
        D.end();
    }

    /** Corners 0 to 3, 10 apart, ways 0-1 and 1-2; an end at 2, a piece at 1. */
    private static WalkTeller town() {
        WalkTeller t = Due.corners(4);
        t.way(0, 1, 5, false);
        t.way(1, 2, 5, true);
        Due.tell(t, "1p2;2e3;");
        t.walker(0, false);
        return t;
    }

    private static void see(WalkTeller t, int x, int doubt, int want) {
        D.due("seen at " + x + " with " + doubt, t.seen(0, x, 0, doubt), want);
    }

    private static void twiceByAWay() {
        WalkTeller t = town();
        see(t, 10, 0, 0);
        see(t, 10, 0, 1);
        D.due("heard", t.about(0, 1), 1);
        D.due("time of the piece alone", t.about(0, 2), 2);
        see(t, 0, 0, 1);
        see(t, 0, 0, 0);
    }

    private static void fourTimesWithoutAWay() {
        WalkTeller t = town();
        see(t, 30, 0, 0);
        see(t, 30, 0, 0);
        see(t, 30, 0, 0);
        see(t, 30, 0, 3);
        see(t, 10, 0, 3);
    }

    private static void stairsAndShutWaysDoNotCount() {
        WalkTeller t = town();
        t.shut(0, 1);
        see(t, 10, 0, 0);
        see(t, 10, 0, 0);
        see(t, 10, 0, 0);
        see(t, 10, 0, 1);
        for (int n = 0; n < 3; n++) {
            see(t, 20, 0, 1);
        }
        see(t, 20, 0, 2);
        D.due("over", t.about(0, 4), 1);
        t.walker(1, true);
        D.due("with stairs", t.seen(1, 20, 0, 0), 1);
        D.due("with stairs, twice", t.seen(1, 20, 0, 0), 2);
    }

    private static void whatBeginsAnew() {
        WalkTeller t = town();
        see(t, 10, 0, 0);
        see(t, 0, 0, 0);
        see(t, 10, 0, 0);
        see(t, 5, 5, 0);
        see(t, 10, 0, 0);
        see(t, 30, 0, 0);
        see(t, 10, 0, 0);
        see(t, 30, 0, 0);
        see(t, 30, 0, 0);
        see(t, 30, 0, 0);
        t.go(0, 0);
        t.go(0, 0);
        see(t, 30, 0, 0);
        see(t, 10, 0, 0);
        see(t, 10, 0, 1);
        see(t, 20, 0, 1);
        see(t, 0, 0, 1);
        see(t, 0, 0, 0);
        see(t, 10, 0, 0);
        see(t, 10, 0, 1);
    }

    private static void whatChangesNothing() {
        WalkTeller t = town();
        see(t, 10, 0, 0);
        see(t, 55, 0, 0);
        see(t, 20, 10, 0);
        D.due("a finding", t.seen(0, 0, 0, 31), Due.BEYOND);
        D.due("a going that can't be", t.go(0, 1), Due.NONE);
        see(t, 10, 0, 1);
    }

    private static void aWayOpensInBetween() {
        WalkTeller t = town();
        t.shut(0, 1);
        see(t, 10, 0, 0);
        see(t, 10, 0, 0);
        t.shut(0, 0);
        see(t, 10, 0, 1);
        WalkTeller u = town();
        u.shut(0, 2);
        see(u, 10, 0, 0);
        u.today(1);
        see(u, 10, 0, 0);
        see(u, 10, 0, 0);
        u.today(0);
        see(u, 10, 0, 1);
        WalkTeller v = town();
        v.walker(0, true);
        see(v, 10, 0, 0);
        D.due("each walker has its own", v.seen(1, 10, 0, 0), 0);
        see(v, 10, 0, 1);
        D.due("the other one, too", v.seen(1, 10, 0, 0), 1);
    }

    private static void asIfItHadGone() {
        WalkTeller t = town();
        see(t, 10, 0, 0);
        see(t, 10, 0, 1);
        see(t, 30, 0, 1);
        see(t, 30, 0, 1);
        see(t, 30, 0, 1);
        see(t, 30, 0, 3);
        D.due("last told", t.about(0, 5), 0);
        for (int n = 0; n < 3; n++) {
            see(t, 20, 0, 3);
        }
        see(t, 20, 0, 2);
        D.due("over", t.about(0, 4), 1);
        D.due("time", t.about(0, 2), 5);
        D.due("last told", t.about(0, 5), 1);
        D.due("over", t.seen(0, 0, 0, 0), Due.STATE);
    }

    private static void doubtReachesJustSoFar() {
        WalkTeller t = new WalkTeller();
        t.corner(0, 0);
        t.corner(50, 50);
        t.way(0, 1, 1, false);
        Due.tell(t, "1e1;");
        t.walker(0, true);
        D.due("x too far", t.seen(0, 81, 50, 30), 0);
        D.due("y too far", t.seen(0, 50, 19, 30), 0);
        D.due("both too far", t.seen(0, 81, 81, 30), 0);
        D.due("once", t.seen(0, 80, 20, 30), 0);
        D.due("x too far by one", t.seen(0, 51, 50, 0), 0);
        D.due("y too far by one", t.seen(0, 50, 49, 0), 0);
        D.due("twice", t.seen(0, 20, 80, 30), 1);
    }

    private static void anyPlace() {
        WalkTeller t = town();
        int most = Integer.MAX_VALUE;
        int least = Integer.MIN_VALUE;
        D.due("far off", t.seen(0, most, most, 30), 0);
        D.due("far off", t.seen(0, least, least, 30), 0);
        D.due("far off", t.seen(0, least, 0, 30), 0);
        D.due("far off", t.seen(0, 0, most, 30), 0);
        D.due("below 0", t.seen(0, 30, -30, 30), 0);
        see(t, 35, 6, 0);
        see(t, 36, 6, 0);
        see(t, 37, 8, 0);
        see(t, 60, 30, 3);
    }

    private static void seenFindings() {
        WalkTeller t = town();
        D.due("no walker 1", t.seen(1, 0, 0, 0), Due.BEYOND);
        D.due("no walker -1", t.seen(-1, 0, 0, 0), Due.BEYOND);
        D.due("doubt -1", t.seen(0, 0, 0, -1), Due.BEYOND);
        D.due("doubt 31", t.seen(0, 0, 0, 31), Due.BEYOND);
        t.walker(2, true);
        D.due("over", t.seen(1, 0, 0, 0), Due.STATE);
        D.due("doubt ahead of over", t.seen(1, 0, 0, 31), Due.BEYOND);
        D.due("findings", t.told(6), 6);
    }

    private static void fill(WalkTeller t, int s, int bits, int... numbers) {
        t.sheet(s, bits, numbers.length);
        for (int i = 0; i < numbers.length; i++) {
            t.write(s, i, numbers[i]);
        }
    }

    private static void trace() {
        WalkTeller t = town();
        fill(t, 1, 8, 10, 0, 0, 10, 0, 0, 0, 0, 0, 0, 0, 0);
        D.due("there and back", t.trace(1, 0), 4);
        D.due("at 0", t.about(0, 0), 0);
        D.due("was at 1", t.about(0, 1), 1);
        fill(t, 2, 16, 10, 0, 0);
        D.due("one", t.trace(2, 0), 1);
        D.due("at 0", t.about(0, 0), 0);
        D.due("the sheet is as it was", t.write(2, 0, 0), 10);
        see(t, 10, 0, 1);
        fill(t, 3, 32, 1000000, -1000000, 30, 0, 3, 3);
        D.due("two", t.trace(3, 0), 2);
        see(t, 0, 0, 0);
        t.sheet(0, 32, 0);
        D.due("no numbers", t.trace(0, 0), 0);
        fill(t, 0, 8, 10, 30, 3, 10, 30, 3);
        D.due("off the street by y", t.trace(0, 0), 2);
        D.due("at 0", t.about(0, 0), 0);
        fill(t, 0, 8, 13, -20, 20, 7, 3, 3);
        D.due("by y on the street", t.trace(0, 0), 2);
        D.due("once", t.about(0, 0), 0);
        see(t, 10, 0, 1);
    }

    private static void traceStops() {
        WalkTeller t = town();
        fill(t, 0, 8, 10, 0, 0, 10, 0);
        D.due("one and a bit", t.trace(0, 0), 1);
        D.due("once as yet", t.about(0, 0), 0);
        fill(t, 0, 8, 10, 0, 0, 0, 0, 31, 0, 0, 0);
        D.due("up to a doubt", t.trace(0, 0), 1);
        D.due("there", t.about(0, 0), 1);
        fill(t, 0, 8, 0, 0, -1);
        D.due("a doubt below 0", t.trace(0, 0), 0);
        fill(t, 0, 8, 20, 0, 0, 20, 0, 0, 20, 0, 0, 20, 0, 0);
        D.due("to the end", t.trace(0, 0), 4);
        D.due("over", t.about(0, 4), 1);
        D.due("over", t.trace(0, 0), 0);
        t.walker(1, true);
        D.due("over within", t.trace(0, 1), 2);
        D.due("no findings", t.told(6), 0);
    }

    private static void traceFindings() {
        WalkTeller t = town();
        D.due("no sheet 4", t.trace(4, 0), Due.BEYOND);
        D.due("no sheet -1", t.trace(-1, 0), Due.BEYOND);
        D.due("no walker 1", t.trace(0, 1), Due.BEYOND);
        D.due("no walker -1", t.trace(0, -1), Due.BEYOND);
        D.due("missing", t.trace(0, 0), Due.MISSING);
        D.due("findings", t.told(6), 5);
    }
}
