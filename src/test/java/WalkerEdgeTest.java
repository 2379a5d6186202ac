/** The edges of the fourth term and of promises 13 to 19, sentence by sentence. */
public final class WalkerEdgeTest {
    private static final Due D = new Due();

    public static void main(String[] args) {
        atMostSixWalkers();
        walkerFindings();
        nothingHeardAhead();
        theLatestEdition();
        todayIsADay();
        todayFindings();
        toldAtOnce();
        toldToAllSix();
        howManyAreTold();
        goFindings();
        goOrder();
        aboutAWalker();
        aboutFindings();
        offerOfTheFewest();
        offerOfTheLeastTime();
        offerToday();
        offerFindings();
        restTimes();
        restFindings();
        lostPieces();
        lostFindings();
        D.end();
    }

    private static void atMostSixWalkers() {
        D.says("Terms 4: WALKERS 0, 1, .. (at most 6); Promise 13: its number. FULL");
        WalkTeller t = Due.corners(8);
        Due.tell(t, "0e1;");
        for (int n = 0; n < 6; n++) {
            D.due("walker " + n, t.walker(n + 2 * (n % 2), n % 2 == 0), n);
            D.due("walkers", t.told(3), n + 1);
        }
        D.due("a seventh", t.walker(1, true), Due.FULL);
        D.due("and again", t.walker(0, false), Due.FULL);
        D.due("six", t.told(3), 6);
        D.due("the last one", t.about(5, 0), 7);
        D.due("none behind it", t.about(6, 0), Due.BEYOND);
        D.due("one that is over counts, too", t.about(0, 4), 1);
    }

    private static void walkerFindings() {
        D.says("Promise 13: BEYOND: no such CORNER. STATE: there is no EDITION");
        WalkTeller t = new WalkTeller();
        D.due("no corner, no edition", t.walker(0, true), Due.BEYOND);
        t.corner(0, 0);
        t.corner(1, 1);
        D.due("no edition", t.walker(0, true), Due.STATE);
        D.due("no edition, the last corner", t.walker(1, false), Due.STATE);
        for (int v : Due.outside(0, 1)) {
            D.due("corner " + v + " ahead of STATE", t.walker(v, true), Due.BEYOND);
        }
        Due.tell(t, "x");
        D.due("a wrong text is no edition", t.walker(0, true), Due.STATE);
        Due.tell(t, "0p1;");
        for (int v : Due.outside(0, 1)) {
            D.due("corner " + v, t.walker(v, true), Due.BEYOND);
        }
        D.due("no walker came of it", t.told(3), 0);
        for (int n = 0; n < 6; n++) {
            t.walker(1, true);
        }
        for (int v : Due.outside(0, 1)) {
            D.due("corner " + v + " ahead of FULL", t.walker(v, true), Due.BEYOND);
        }
    }

    private static void nothingHeardAhead() {
        D.says("Promise 13: A new WALKER, at a CORNER, with nothing HEARD ahead of it");
        WalkTeller t = Due.street(2);
        Due.tell(t, "0p2;1p3a;");
        t.walker(0, true);
        t.go(0, 0);
        t.walker(1, true);
        int[] want = {1, 0, 0, 0, 0, -1};
        for (int what = 0; what < 6; what++) {
            D.due("about " + what, t.about(1, what), want[what]);
        }
        D.due("the first one heard both", t.about(0, 1), 3);
    }

    private static void theLatestEdition() {
        D.says("Terms 4: with the latest EDITION that there was as they began");
        WalkTeller t = Due.street(2);
        for (int n = 0; n < 4; n++) {
            Due.tell(t, "1p" + (n + 1) + ";");
            t.walker(0, true);
        }
        Due.tell(t, "1p9;");
        Due.tell(t, "1p0;");
        t.walker(0, true);
        for (int n = 0; n < 5; n++) {
            D.due("edition of " + n, t.about(n, 3), Math.min(n, 3));
            t.go(n, 0);
            D.due("time of " + n, t.about(n, 2), Math.min(n, 3) + 2);
        }
    }

    private static void todayIsADay() {
        D.says("Terms 4: TODAY is a DAY (0 at first); Promise 14: what it was");
        WalkTeller t = new WalkTeller();
        D.due("at first", t.told(4), 0);
        int before = 0;
        for (int day : new int[] {6, 0, 1, 2, 3, 4, 5, 5, 6}) {
            D.due("today(" + day + ")", t.today(day), before);
            D.due("told(4)", t.told(4), day);
            before = day;
        }
        D.due("no findings", t.told(6), 0);
    }

    private static void todayFindings() {
        D.says("Promise 14: BEYOND");
        WalkTeller t = Due.corners(1);
        Due.tell(t, "0s1@0;0s1@6;");
        t.today(3);
        t.walker(0, true);
        for (int v : Due.outside(0, 6)) {
            D.due("day " + v, t.today(v), Due.BEYOND);
            D.due("it is as it was", t.told(4), 3);
            D.due("nothing is told", t.about(0, 1), 0);
        }
    }

    private static void toldAtOnce() {
        D.says("Terms 4: whatever CAN be told is told to it at once");
        WalkTeller t = Due.street(2);
        Due.tell(t, "0t1;".repeat(12));
        t.walker(0, true);
        D.due("twelve as it begins", t.about(0, 1), 4095);
        D.due("in their time", t.about(0, 2), 12);
        D.due("the last one", t.about(0, 5), 11);
        Due.tell(t, "0p1b;0p2c;0p3;1e4a;1p5;");
        t.walker(0, true);
        D.due("from the last to the first", t.about(1, 1), 7);
        D.due("the first one last", t.about(1, 5), 0);
        t.walker(1, true);
        D.due("not ahead of its needs, but what is behind them", t.about(2, 1), 16);
        D.says("Terms 4: or whose walk is over");
        t.go(1, 0);
        D.due("up to the end", t.about(1, 1), 15);
        D.due("over", t.about(1, 4), 1);
        D.due("no more, on no day", t.today(6), 0);
        D.due("as it was", t.about(1, 1), 15);
        Due.tell(t, "0e9;0p1;");
        t.walker(0, true);
        D.due("over as it begins", t.about(3, 4), 1);
        D.due("with the end alone", t.about(3, 1), 1);
        D.due("in its time", t.about(3, 2), 9);
    }

    private static void toldToAllSix() {
        D.says("Terms 4: TODAY: told to it at once, to each of six");
        WalkTeller t = Due.street(2);
        Due.tell(t, "0s3@6;1s4@6;0s5a@5;");
        for (int n = 0; n < 6; n++) {
            t.walker(n % 2, n < 3);
        }
        t.today(5);
        for (int n = 0; n < 6; n++) {
            D.due("nothing on 5 ahead of 6, walker " + n, t.about(n, 1), 0);
        }
        t.today(6);
        for (int n = 0; n < 6; n++) {
            D.due("on 6, walker " + n, t.about(n, 1), 1 + n % 2);
            D.due("its time", t.about(n, 2), 3 + n % 2);
        }
        t.today(5);
        for (int n = 0; n < 6; n++) {
            D.due("on 5, walker " + n, t.about(n, 1), n % 2 == 0 ? 5 : 2);
            D.due("the last one", t.about(n, 5), n % 2 == 0 ? 2 : 1);
        }
    }

    private static void howManyAreTold() {
        D.says("Promise 15: how many PIECES it is told then");
        WalkTeller t = Due.street(3);
        Due.tell(t, "1t1;".repeat(12));
        t.walker(0, true);
        D.due("twelve", t.go(0, 0), 12);
        D.due("none, as all were heard", t.go(0, 0), 0);
        D.due("none again", t.go(0, 0), 0);
        D.due("time: three ways and twelve pieces", t.about(0, 2), 15);
        Due.tell(t, "1p1;1p1;1e1;1p1;");
        t.walker(2, true);
        D.due("up to the end, from the other side", t.go(1, 1), 3);
        D.due("its corner", t.about(1, 0), 1);
        Due.tell(t, "1s1@1;1s1@12;");
        t.walker(0, true);
        D.due("none today", t.go(2, 0), 0);
        D.due("they are told tomorrow", t.today(1), 0);
        D.due("both", t.about(2, 1), 3);
    }

    /** Way 0 joins 0 and 1, way 1 (stairs) 0 and 1, way 2 (stairs) 1 and 2; an end at 2. */
    private static WalkTeller goTown() {
        WalkTeller t = Due.corners(3);
        t.way(0, 1, 1, false);
        t.way(0, 1, 2, true);
        t.way(1, 2, 3, true);
        Due.tell(t, "2e1;");
        t.walker(0, false);
        t.walker(2, false);
        t.walker(0, true);
        return t;
    }

    private static void goFindings() {
        D.says("Promise 15: BEYOND: no such WALKER, or WAY");
        WalkTeller t = goTown();
        for (int v : Due.outside(0, 2)) {
            D.due("walker " + v, t.go(v, 0), Due.BEYOND);
            D.due("way " + v, t.go(0, v), Due.BEYOND);
            D.due("both " + v, t.go(v, v), Due.BEYOND);
        }
        D.due("no walkers", Due.street(2).go(0, 0), Due.BEYOND);
        D.says("Promise 15: NONE: the WAY does not lead from where it is, or is SHUT TODAY");
        t = goTown();
        D.due("does not lead from here", t.go(2, 2), Due.NONE);
        t.shut(0, 1 << 4);
        for (int day = 0; day < 7; day++) {
            t.today(day);
            D.due("shut on 4, on " + day, t.go(2, 0), day == 4 ? Due.NONE : 0);
        }
        D.due("it went six times", t.about(2, 2), 6);
        D.due("and is where it was", t.about(2, 0), 0);
        D.says("Promise 15: KIND: it has STAIRS, and the WALKER goes without");
        D.due("without", t.go(0, 1), Due.KIND);
        D.due("with", t.go(2, 1), 0);
        D.due("it went nowhere", t.about(0, 0), 0);
        D.due("in no time", t.about(0, 2), 0);
        D.says("Promise 15: STATE: its walk is over");
        D.due("over", t.go(1, 2), Due.STATE);
    }

    private static void goOrder() {
        D.says("Promise 15: BEYOND is asked ahead of STATE, that ahead of NONE, that ahead of KIND");
        WalkTeller t = goTown();
        D.due("no way, over", t.go(1, 3), Due.BEYOND);
        D.due("no way, over", t.go(1, -1), Due.BEYOND);
        D.due("over, does not lead from here", t.go(1, 0), Due.STATE);
        D.due("over, does not lead from here, stairs", t.go(1, 1), Due.STATE);
        D.due("over, stairs", t.go(1, 2), Due.STATE);
        t.shut(2, 1);
        D.due("over, shut", t.go(1, 2), Due.STATE);
        D.due("does not lead from here, stairs", t.go(0, 2), Due.NONE);
        t.shut(1, 1);
        D.due("shut, stairs", t.go(0, 1), Due.NONE);
        D.due("each counts", t.told(6), 8);
    }

    private static void aboutAWalker() {
        D.says("Promise 16: 0 CORNER, 1 set of PIECES HEARD, 2 TIME, 3 EDITION, 4 over, 5 told last (-1: none)");
        WalkTeller t = Due.corners(8);
        t.way(0, 7, 20, false);
        Due.tell(t, "7p9;");
        Due.tell(t, "7p9;".repeat(11) + "7e9;");
        t.walker(0, true);
        int[] first = {0, 0, 0, 1, 0, -1};
        int[] last = {7, 4095, 128, 1, 1, 11};
        for (int what = 0; what < 6; what++) {
            D.due("first " + what, t.about(0, what), first[what]);
        }
        D.due("go", t.go(0, 0), 12);
        for (int what = 0; what < 6; what++) {
            D.due("then " + what, t.about(0, what), last[what]);
        }
        D.due("-1 is no finding", t.told(6), 0);
        Due.tell(t, "7p9;");
        t.walker(7, true);
        D.due("piece 0 is told last, not none", t.about(1, 5), 0);
    }

    private static void aboutFindings() {
        D.says("Promise 16: BEYOND: no such WALKER, or another what");
        WalkTeller t = Due.corners(1);
        D.due("no walkers", t.about(0, 0), Due.BEYOND);
        Due.tell(t, "0p1;");
        t.walker(0, true);
        t.walker(0, true);
        for (int v : Due.outside(0, 1)) {
            D.due("walker " + v, t.about(v, 0), Due.BEYOND);
        }
        for (int v : Due.outside(0, 5)) {
            D.due("what " + v, t.about(0, v), Due.BEYOND);
            D.due("what " + v + " of the last one", t.about(1, v), Due.BEYOND);
        }
    }

    /** From 0 to 1 and 2 by 5 each, from there to the end at 3 by 5 each. */
    private static WalkTeller fork() {
        WalkTeller t = Due.corners(4);
        t.way(0, 2, 5, false);
        t.way(0, 1, 5, false);
        t.way(1, 3, 5, false);
        t.way(2, 3, 5, false);
        Due.tell(t, "3e1;");
        t.walker(0, true);
        return t;
    }

    private static void offerOfTheFewest() {
        D.says("Promise 17: the one at which the fewest other WALKERS are");
        WalkTeller t = fork();
        D.due("none at either: the least", t.offer(0), 1);
        t.walker(1, true);
        D.due("one at 1", t.offer(0), 2);
        t.walker(2, true);
        D.due("one at each", t.offer(0), 1);
        t.walker(1, true);
        D.due("two at 1", t.offer(0), 2);
        t.walker(2, true);
        t.walker(2, true);
        D.due("three at 2", t.offer(0), 1);
        t.go(1, 1);
        t.go(3, 1);
        D.due("all others left 1", t.offer(0), 1);
        D.due("three at 0 now, so to 3 from 2", t.offer(2), 3);
        t.shut(3, 1);
        D.due("but 0 if there is no other way", t.offer(2), 0);
        D.says("Promise 17: the fewest are asked ahead of the least TIME");
        WalkTeller u = fork();
        u.way(0, 3, 1, false);
        Due.tell(u, "3e1l;1e9;2e9;");
        D.due("straight to the end", u.offer(0), 3);
        u.walker(3, true);
        D.due("one is there, not over", u.offer(0), 1);
        u.walker(1, true);
        D.due("over as it began at 1", u.about(2, 4), 1);
        D.says("Promise 17: WALKERS whose walks are not over");
        D.due("does not count at 1", u.offer(0), 1);
        D.says("Promise 17: the fewest other WALKERS: each of six counts, whatever its number");
        for (int asked = 0; asked < 6; asked++) {
            WalkTeller v = star(asked);
            for (int other = 0; other < 6; other++) {
                D.due("walker " + other + " is at " + (other == asked ? 3 : other % 3), v.about(other, 0),
                    other == asked ? 3 : other % 3);
            }
            D.due("the one that walker " + asked + " left", v.offer(asked), asked % 3);
        }
    }

    /** Corners 0, 1, 2 about 3, an end at 4 from each; one of six at 3, the others two by two but one. */
    private static WalkTeller star(int asked) {
        WalkTeller t = Due.corners(5);
        for (int n = 0; n < 3; n++) {
            t.way(3, n, 3 + n, false);
            t.way(n, 4, 3 - n, false);
        }
        Due.tell(t, "4e1;");
        for (int n = 0; n < 6; n++) {
            t.walker(n == asked ? 3 : n % 3, true);
        }
        return t;
    }

    private static void offerOfTheLeastTime() {
        D.says("Promise 17: of several that with the least TIME from where it is by it to THE QUICKEST's end");
        for (int more = -1; more <= 1; more++) {
            WalkTeller t = Due.corners(4);
            t.way(0, 1, 10 + more, false);
            t.way(1, 3, 3, false);
            t.way(0, 2, 2, false);
            t.way(2, 3, 11, false);
            Due.tell(t, "3e1;");
            t.walker(0, true);
            D.due("by 1 it takes " + more + " more", t.offer(0), more > 0 ? 2 : 1);
        }
        D.says("Promise 17: of these the least");
        WalkTeller all = star(0);
        all.go(3, 0);
        D.due("0 and 1 and 2 take as long, but 0 is empty", all.offer(0), 0);
        all.go(1, 2);
        all.go(4, 2);
        all.go(2, 4);
        all.go(5, 4);
        D.due("all are empty", all.offer(0), 0);
        all.shut(0, 1);
        D.due("1 is less than 2", all.offer(0), 1);
        D.says("Promise 17: PIECES that are told there take their TIME, too");
        for (int length = 1; length <= 3; length++) {
            WalkTeller t = fork();
            t.way(0, 2, 3, false);
            Due.tell(t, "3e1;2p" + length + ";");
            t.walker(0, true);
            D.due("by 2 two less, and " + length, t.offer(1), length < 2 ? 2 : 1);
        }
    }

    private static void offerToday() {
        D.says("Promise 17: CORNERS to which a WAY leads by which it may go TODAY, and from which an END can be HEARD");
        WalkTeller t = fork();
        t.walker(0, false);
        t.shut(1, 1 << 6);
        D.due("on day 0", t.offer(0), 1);
        t.today(6);
        D.due("on day 6", t.offer(0), 2);
        t.way(0, 1, 1, true);
        D.due("by the one with stairs", t.offer(0), 1);
        D.due("not without", t.offer(1), 2);
        WalkTeller u = Due.corners(4);
        u.way(0, 1, 1, false);
        u.way(0, 2, 20, false);
        Due.tell(u, "2e1;");
        u.walker(0, true);
        u.walker(2, true);
        D.due("from 1 by 0: the end can be heard there, too, but takes longer", u.offer(0), 2);
        Due.tell(u, "2s1@0;2e1a;3e1;");
        u.walker(0, true);
        D.due("the song is told today", u.offer(2), 2);
        u.today(1);
        D.due("not on day 1", u.offer(2), Due.NONE);
    }

    private static void offerFindings() {
        D.says("Promise 17: BEYOND. STATE: its walk is over. NONE: there is none such");
        WalkTeller t = fork();
        for (int v : Due.outside(0, 0)) {
            D.due("walker " + v, t.offer(v), Due.BEYOND);
        }
        t.walker(3, true);
        D.due("over", t.offer(1), Due.STATE);
        t.shut(0, 1);
        t.shut(1, 1);
        D.due("no way", t.offer(0), Due.NONE);
        t.shut(0, 0);
        t.shut(2, 1);
        t.shut(3, 1);
        D.due("no end", t.offer(0), Due.NONE);
        D.says("Promise 17: STATE is asked ahead of NONE");
        D.due("over, and no way", t.offer(1), Due.STATE);
    }

    private static void restTimes() {
        D.says("Promise 18: TIME of THE QUICKEST from where a WALKER is, TODAY; Terms 3: (0, if one was)");
        WalkTeller t = Due.street(3);
        Due.tell(t, "1s9@05;2e1a;0p1;");
        t.walker(0, true);
        D.due("1 + 9 + 1 + 1: what was told does not count", t.rest(0), 12);
        t.go(0, 0);
        D.due("1 + 1", t.rest(0), 2);
        t.today(6);
        D.due("on 6, too, as the song was heard", t.rest(0), 2);
        t.walker(0, true);
        D.due("none for one who did not hear it", t.rest(1), Due.NONE);
        t.go(0, 1);
        D.due("over", t.rest(0), 0);
        t.shut(0, 127);
        t.shut(1, 127);
        D.due("over, and all is shut", t.rest(0), 0);
        t.today(5);
        D.due("none, as all is shut", t.rest(1), Due.NONE);
    }

    private static void restFindings() {
        D.says("Promise 18: BEYOND. NONE: no END can be HEARD");
        WalkTeller t = Due.corners(2);
        D.due("no walkers", t.rest(0), Due.BEYOND);
        Due.tell(t, "1e1;");
        t.walker(0, true);
        t.walker(1, true);
        for (int v : Due.outside(0, 1)) {
            D.due("walker " + v, t.rest(v), Due.BEYOND);
        }
        D.due("no way", t.rest(0), Due.NONE);
        D.due("over", t.rest(1), 0);
    }

    private static void lostPieces() {
        D.says("Promise 19: PIECES of its EDITION that a WALKER did not hear and that are HEARD in no MOMENT, TODAY");
        WalkTeller t = Due.street(2);
        Due.tell(t, "1p1;".repeat(12));
        t.walker(0, true);
        Due.tell(t, "1e1;0p1;");
        t.walker(0, true);
        D.due("none of twelve", t.lost(0), 0);
        t.shut(0, 1 << 3);
        t.today(3);
        D.due("all of twelve", t.lost(0), 4095);
        D.due("of two of its own edition one", t.lost(1), 1);
        t.today(4);
        D.due("none on another day", t.lost(0), 0);
        D.due("none", t.lost(1), 0);
        t.go(0, 0);
        t.today(3);
        D.due("none, as all were heard", t.lost(0), 0);
        D.says("Promise 19: of one whose walk is over all that it did not hear");
        t.today(4);
        Due.tell(t, "1e1;0p1;1p1;1p1;");
        t.walker(1, true);
        D.due("over", t.lost(2), 14);
        Due.tell(t, "1p1l;0e1a;1p1;");
        t.walker(1, true);
        D.due("what needs what is not, and what needs that", t.lost(3), 3);
    }

    private static void lostFindings() {
        D.says("Promise 19: BEYOND");
        WalkTeller t = Due.corners(1);
        D.due("no walkers", t.lost(0), Due.BEYOND);
        Due.tell(t, "0p1;");
        for (int n = 0; n < 6; n++) {
            t.walker(0, true);
        }
        for (int v : Due.outside(0, 5)) {
            D.due("walker " + v, t.lost(v), Due.BEYOND);
        }
        D.due("the last one", t.lost(5), 0);
    }
}
