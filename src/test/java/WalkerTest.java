/** Promises 13 to 19: walker, today, go, about, offer, rest, lost. */
public final class WalkerTest {
    private static final Due D = new Due();

    public static void main(String[] args) {
        walker();
        walkerKeepsItsEdition();
        today();
        go();
        goFindings();
        about();
        offerGoesWhereTheFewestAre();
        offerTakesTheLeastTime();
        offerFindings();
        rest();
        lost();
        D.end();
    }

    private static void walker() {
        WalkTeller t = Due.street(2);
        D.due("no corner, no edition", t.walker(2, true), Due.BEYOND);
        D.due("no edition", t.walker(0, true), Due.STATE);
        Due.tell(t, "0p3;1p1;0p4a;");
        D.due("no corner 2", t.walker(2, true), Due.BEYOND);
        D.due("no corner -1", t.walker(-1, true), Due.BEYOND);
        for (int n = 0; n < 6; n++) {
            D.due("walker " + n, t.walker(n % 2, n < 3), n);
        }
        D.due("a seventh", t.walker(0, true), Due.FULL);
        D.due("a seventh, beyond", t.walker(9, true), Due.BEYOND);
        D.due("walkers", t.told(3), 6);
        for (int n = 6; n < 9; n++) {
            D.due("about no such walker " + n, t.about(n, 0), Due.BEYOND);
        }
        D.due("is told at once", t.about(0, 1), 5);
        D.due("takes its time", t.about(0, 2), 7);
        D.due("the other one", t.about(1, 1), 2);
        WalkTeller u = Due.corners(1);
        Due.tell(u, "0t1;".repeat(12));
        u.walker(0, true);
        D.due("twelve at once", u.about(0, 1), 4095);
        D.due("in their time", u.about(0, 2), 12);
        D.due("none lost", u.lost(0), 0);
        D.due("no end", u.rest(0), Due.NONE);
    }

    private static void walkerKeepsItsEdition() {
        WalkTeller t = Due.street(2);
        Due.tell(t, "1p1;");
        t.walker(0, true);
        Due.tell(t, "1p2;1e3;");
        t.walker(0, true);
        Due.tell(t, "x");
        t.walker(0, true);
        D.due("go with the first", t.go(0, 0), 1);
        D.due("go with the second", t.go(1, 0), 2);
        D.due("edition", t.about(0, 3), 0);
        D.due("edition", t.about(1, 3), 1);
        D.due("a wrong text is none", t.about(2, 3), 1);
        D.due("not over", t.about(0, 4), 0);
        D.due("over", t.about(1, 4), 1);
        D.due("lost of the first", t.lost(0), 0);
    }

    private static void today() {
        WalkTeller t = Due.street(2);
        Due.tell(t, "0s2@3;0s3a@3;1s1@24;0p1b;0e1d;");
        t.walker(0, true);
        t.walker(1, true);
        t.walker(0, true);
        D.due("nothing as yet", t.about(0, 1), 0);
        D.due("today", t.today(2), 0);
        D.due("told at 1", t.about(1, 1), 4);
        D.due("told at 1 last", t.about(1, 5), 2);
        D.due("not told at 0", t.about(0, 1), 0);
        D.due("day 7", t.today(7), Due.BEYOND);
        D.due("day -1", t.today(-1), Due.BEYOND);
        D.due("still", t.told(4), 2);
        D.due("nothing changed", t.about(0, 1), 0);
        D.due("today", t.today(3), 2);
        D.due("one behind the other, up to the end", t.about(0, 1), 1 | 2 | 8 | 16);
        D.due("over", t.about(0, 4), 1);
        D.due("time", t.about(0, 2), 7);
        D.due("the third, too", t.about(2, 1), 27);
        D.due("again", t.today(3), 3);
        D.due("today", t.told(4), 3);
    }

    private static void go() {
        WalkTeller t = Due.corners(3);
        t.way(0, 1, 20, false);
        t.way(2, 1, 7, true);
        Due.tell(t, "1p2;1p3a;2e9;2p1;");
        t.walker(0, true);
        D.due("two are told", t.go(0, 0), 2);
        D.due("time", t.about(0, 2), 25);
        D.due("and back: none", t.go(0, 0), 0);
        D.due("time", t.about(0, 2), 45);
        D.due("again: none, they were heard", t.go(0, 0), 0);
        D.due("against the way: one, the end", t.go(0, 1), 1);
        D.due("time", t.about(0, 2), 65 + 7 + 9);
        D.due("what is behind the end is not told", t.about(0, 1), 7);
        D.due("over", t.go(0, 1), Due.STATE);
        D.due("still there", t.about(0, 0), 2);
    }

    private static void goFindings() {
        WalkTeller t = Due.corners(3);
        t.way(0, 1, 1, true);
        t.way(1, 2, 1, false);
        Due.tell(t, "2e1;");
        t.walker(0, false);
        D.due("no walker 1", t.go(1, 0), Due.BEYOND);
        D.due("no walker -1", t.go(-1, 0), Due.BEYOND);
        D.due("no way 2", t.go(0, 2), Due.BEYOND);
        D.due("no way -1", t.go(0, -1), Due.BEYOND);
        D.due("does not lead from here", t.go(0, 1), Due.NONE);
        D.due("stairs", t.go(0, 0), Due.KIND);
        t.shut(0, 1);
        D.due("shut ahead of stairs", t.go(0, 0), Due.NONE);
        t.today(1);
        D.due("stairs on another day", t.go(0, 0), Due.KIND);
        D.due("nothing changed", t.about(0, 0), 0);
        D.due("nor its time", t.about(0, 2), 0);
        t.walker(2, false);
        D.due("over ahead of none", t.go(1, 0), Due.STATE);
        D.due("beyond ahead of over", t.go(1, 2), Due.BEYOND);
        D.due("findings", t.told(6), 10);
    }

    private static void about() {
        WalkTeller t = Due.street(2);
        Due.tell(t, "1p2;");
        Due.tell(t, "1p2;1p3;");
        t.walker(0, true);
        int[] first = {0, 0, 0, 1, 0, -1};
        int[] then = {1, 3, 6, 1, 0, 1};
        for (int what = 0; what < 6; what++) {
            D.due("first about " + what, t.about(0, what), first[what]);
        }
        t.go(0, 0);
        for (int what = 0; what < 6; what++) {
            D.due("then about " + what, t.about(0, what), then[what]);
        }
        D.due("-1 is no finding", t.told(6), 0);
        D.due("no what 6", t.about(0, 6), Due.BEYOND);
        D.due("no what -1", t.about(0, -1), Due.BEYOND);
        D.due("no walker 1", t.about(1, 0), Due.BEYOND);
        D.due("no walker -1", t.about(-1, 0), Due.BEYOND);
    }

    /** Corner 0 in the midst of 1, 2, 3, each of which leads on to the end at 4. */
    private static WalkTeller star() {
        WalkTeller t = Due.corners(5);
        for (int n = 1; n <= 3; n++) {
            t.way(0, n, 4 - n, false);
            t.way(n, 4, 1, false);
        }
        Due.tell(t, "4e1;");
        return t;
    }

    private static void offerGoesWhereTheFewestAre() {
        WalkTeller t = star();
        t.walker(0, true);
        D.due("the quickest of the empty ones", t.offer(0), 3);
        t.walker(3, true);
        D.due("not to 3", t.offer(0), 2);
        t.walker(2, true);
        D.due("not to 2", t.offer(0), 1);
        t.walker(1, true);
        D.due("one at each", t.offer(0), 3);
        t.walker(3, true);
        D.due("two at 3", t.offer(0), 2);
        t.go(2, 3);
        D.due("2 is empty now", t.offer(0), 2);
        D.due("from 3: to 4, where one is, but over", t.offer(1), 4);
        WalkTeller u = Due.corners(3);
        u.way(1, 0, 1, false);
        u.way(1, 2, 2, false);
        u.way(0, 2, 1, false);
        Due.tell(u, "2s1l;2e1b;0p1l;1e1ab;0e9;");
        u.walker(1, true);
        D.due("by 0 straight to its end", u.offer(0), 0);
        Due.tell(u, "0e1;2e9;");
        u.walker(1, true);
        D.due("0 is quicker than 2", u.offer(1), 0);
        WalkTeller v = star();
        v.walker(3, true);
        v.walker(0, true);
        D.due("walker 0 counts at 3", v.offer(1), 2);
        v.today(1);
        D.due("on each day", v.offer(1), 2);
    }

    private static void offerTakesTheLeastTime() {
        WalkTeller t = Due.corners(5);
        t.way(0, 1, 1, false);
        t.way(0, 2, 5, false);
        t.way(0, 2, 4, true);
        t.way(1, 4, 9, false);
        t.way(2, 4, 6, false);
        Due.tell(t, "4e1;3e1;");
        t.walker(0, true);
        t.walker(0, false);
        D.due("as long by 1 and 2: the least", t.offer(0), 1);
        t.shut(3, 1 << 1);
        t.today(1);
        // From 1 the way to the end is by 0 and 2 then.
        D.due("back by 0: 2 is quicker", t.offer(0), 2);
        t.today(0);
        t.shut(3, 127);
        t.way(1, 4, 10, false);
        D.due("the shorter of two ways counts", t.offer(0), 2);
        D.due("without stairs by 1, as long", t.offer(1), 1);
        D.due("rest with stairs", t.rest(0), 11);
        D.due("rest without", t.rest(1), 12);
    }

    private static void offerFindings() {
        WalkTeller t = star();
        D.due("no walker 0", t.offer(0), Due.BEYOND);
        t.walker(0, true);
        t.walker(4, true);
        D.due("no walker 2", t.offer(2), Due.BEYOND);
        D.due("no walker -1", t.offer(-1), Due.BEYOND);
        D.due("over", t.offer(1), Due.STATE);
        for (int way = 1; way < 6; way += 2) {
            t.shut(way, 1);
        }
        D.due("no end from anywhere", t.offer(0), Due.NONE);
        t.shut(5, 0);
        D.due("the end by 3 from all: the least time is by 3", t.offer(0), 3);
        t.shut(4, 1);
        D.due("no way to 3", t.offer(0), Due.NONE);
        WalkTeller alone = Due.street(2);
        Due.tell(alone, "1e1;");
        alone.walker(0, true);
        alone.shut(0, 127);
        D.due("no way at all", alone.offer(0), Due.NONE);
    }

    private static void rest() {
        WalkTeller t = Due.street(4);
        Due.tell(t, "1s3@0;3e2a;");
        t.walker(0, true);
        D.due("no walker 1", t.rest(1), Due.BEYOND);
        D.due("no walker -1", t.rest(-1), Due.BEYOND);
        D.due("all of it", t.rest(0), 8);
        t.today(1);
        D.due("no song today", t.rest(0), Due.NONE);
        t.go(0, 0);
        D.due("nor there", t.rest(0), Due.NONE);
        t.today(0);
        D.due("heard now", t.rest(0), 4);
        t.today(1);
        D.due("it stays heard", t.rest(0), 4);
        t.go(0, 1);
        t.go(0, 2);
        D.due("over", t.rest(0), 0);
    }

    private static void lost() {
        WalkTeller t = Due.street(4);
        Due.tell(t, "0p1;1s1@0;2p1b;3e1;3p1;0p1e;");
        t.walker(0, true);
        D.due("no walker 1", t.lost(1), Due.BEYOND);
        D.due("no walker -1", t.lost(-1), Due.BEYOND);
        D.due("4 is behind the end, 5 needs it", t.lost(0), 16 | 32);
        t.today(2);
        D.due("no song today", t.lost(0), 2 | 4 | 16 | 32);
        t.shut(0, 4);
        D.due("shut in", t.lost(0), 2 | 4 | 8 | 16 | 32);
        t.today(0);
        t.go(0, 0);
        t.today(2);
        D.due("the song was heard", t.lost(0), 16 | 32);
        t.go(0, 1);
        t.go(0, 2);
        D.due("over", t.lost(0), 16 | 32);
        D.due("heard", t.about(0, 1), 15);
        t.walker(3, true);
        D.due("piece 0, too", t.lost(1), 63 & ~8);
    }
}
