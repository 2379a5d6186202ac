/** Promises 1 to 5: a new object, corner, way, shut, far. */
public final class TownTest {
    private static final Due D = new Due();

    public static void main(String[] args) {
        newObject();
        newObjectsShareNothing();
        corner();
        way();
        shut();
        far();
        farByManySteps();
        D.end();
    }

    private static void newObject() {
        WalkTeller t = new WalkTeller();
        for (int what = 0; what <= 6; what++) {
            D.due("told(" + what + ")", t.told(what), 0);
        }
        D.due("no way", t.shut(0, 0), Due.BEYOND);
        D.due("no corner", t.far(0, 0, 0, true), Due.BEYOND);
        D.due("no edition", t.of(0, 0, 0), Due.BEYOND);
        D.due("no walker", t.about(0, 0), Due.BEYOND);
        for (int s = 0; s < 4; s++) {
            D.due("sheet " + s, t.write(s, 0, 1), Due.MISSING);
        }
    }

    private static void newObjectsShareNothing() {
        WalkTeller used = Due.street(3);
        Due.tell(used, "0e1;");
        used.walker(1, true);
        used.today(3);
        used.sheet(0, 8, 3);
        used.feed(1, 1);
        WalkTeller t = new WalkTeller();
        for (int what = 0; what <= 6; what++) {
            D.due("new told(" + what + ")", t.told(what), 0);
        }
        D.due("new sheet", t.write(0, 0, 0), Due.MISSING);
    }

    private static void corner() {
        WalkTeller t = new WalkTeller();
        D.due("corner(-1, 0)", t.corner(-1, 0), Due.BEYOND);
        D.due("corner(0, -1)", t.corner(0, -1), Due.BEYOND);
        D.due("corner(100, 0)", t.corner(100, 0), Due.BEYOND);
        D.due("corner(0, 100)", t.corner(0, 100), Due.BEYOND);
        D.due("corner(least, 0)", t.corner(Integer.MIN_VALUE, 0), Due.BEYOND);
        D.due("corner(0, most)", t.corner(0, Integer.MAX_VALUE), Due.BEYOND);
        D.due("none was made", t.told(0), 0);
        for (int n = 0; n < 8; n++) {
            D.due("corner " + n, t.corner(n % 2 * 99, 99), n);
        }
        D.due("a ninth", t.corner(0, 0), Due.FULL);
        D.due("a ninth, beyond", t.corner(100, 0), Due.BEYOND);
        D.due("corners", t.told(0), 8);
        D.due("findings", t.told(6), 8);
    }

    private static void way() {
        WalkTeller t = Due.corners(3);
        D.due("way(3, 0)", t.way(3, 0, 1, false), Due.BEYOND);
        D.due("way(0, 3)", t.way(0, 3, 1, false), Due.BEYOND);
        D.due("way(-1, 0)", t.way(-1, 0, 1, false), Due.BEYOND);
        D.due("way(0, -1)", t.way(0, -1, 1, false), Due.BEYOND);
        D.due("way(2, 2)", t.way(2, 2, 1, false), Due.BEYOND);
        D.due("length 0", t.way(0, 1, 0, false), Due.BEYOND);
        D.due("length 21", t.way(0, 1, 21, false), Due.BEYOND);
        D.due("length -1", t.way(0, 1, -1, false), Due.BEYOND);
        D.due("none was made", t.told(1), 0);
        for (int n = 0; n < 14; n++) {
            D.due("way " + n, t.way(n % 3, (n + 1) % 3, n == 0 ? 20 : 1, n % 2 == 0), n);
        }
        D.due("a fifteenth", t.way(0, 1, 1, false), Due.FULL);
        D.due("a fifteenth, beyond", t.way(0, 0, 1, false), Due.BEYOND);
        D.due("ways", t.told(1), 14);
        for (int n = 14; n < 17; n++) {
            D.due("shut, of no such way " + n, t.shut(n, 1), Due.BEYOND);
        }
    }

    private static void shut() {
        WalkTeller t = Due.street(3);
        D.due("shut(2, 0)", t.shut(2, 0), Due.BEYOND);
        D.due("shut(-1, 0)", t.shut(-1, 0), Due.BEYOND);
        D.due("days 128", t.shut(0, 128), Due.BEYOND);
        D.due("days -1", t.shut(0, -1), Due.BEYOND);
        D.due("none at first", t.shut(0, 127), 0);
        D.due("what they were", t.shut(0, 5), 127);
        D.due("the other way has its own", t.shut(1, 1), 0);
        for (int day = 0; day < 7; day++) {
            boolean isShut = day == 0 || day == 2;
            D.due("far on " + day, t.far(0, 1, day, true), isShut ? Due.NONE : 1);
        }
        D.due("open again", t.shut(0, 0), 5);
        D.due("far", t.far(0, 1, 0, true), 1);
    }

    private static void far() {
        WalkTeller t = Due.corners(4);
        t.way(0, 1, 5, false);
        t.way(1, 2, 3, true);
        t.way(2, 0, 20, false);
        t.way(0, 1, 4, true);
        D.due("to itself", t.far(0, 0, 0, false), 0);
        D.due("to itself, alone", t.far(3, 3, 6, false), 0);
        D.due("with stairs", t.far(0, 2, 0, true), 7);
        D.due("and back", t.far(2, 0, 0, true), 7);
        D.due("without", t.far(0, 2, 0, false), 20);
        D.due("no way", t.far(0, 3, 0, true), Due.NONE);
        t.shut(3, 1 << 6);
        D.due("on day 6", t.far(0, 2, 6, true), 8);
        D.due("on day 5", t.far(0, 2, 5, true), 7);
        D.due("no corner 4", t.far(4, 0, 0, true), Due.BEYOND);
        D.due("no corner -1", t.far(0, -1, 0, true), Due.BEYOND);
        D.due("no corner 4, itself", t.far(4, 4, 0, true), Due.BEYOND);
        D.due("no day 7", t.far(0, 1, 7, true), Due.BEYOND);
        D.due("no day -1", t.far(0, 0, -1, true), Due.BEYOND);
    }

    private static void farByManySteps() {
        WalkTeller t = Due.corners(8);
        int[] order = {3, 7, 0, 5, 1, 6, 2, 4};
        for (int n = 0; n + 1 < 8; n++) {
            t.way(order[n], order[n + 1], 20, n % 2 == 0);
        }
        D.due("seven steps", t.far(3, 4, 0, true), 140);
        D.due("seven steps back", t.far(4, 3, 0, true), 140);
        D.due("without stairs", t.far(3, 4, 0, false), Due.NONE);
        t.way(3, 4, 20, true);
        D.due("by the new way", t.far(7, 4, 0, true), 40);
    }
}
