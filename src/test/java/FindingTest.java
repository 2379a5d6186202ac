import java.util.ArrayList;
import java.util.List;
import java.util.function.Supplier;

/**
 * What the document says of FINDINGS ahead of its terms: which each act answers and in which order
 * they are asked, and that an act which answers one changes nothing but what told(6) tells. Each act
 * is called on one of two objects that were made alike; all that can be asked of both must be the
 * same then.
 */
public final class FindingTest {
    private static final Due D = new Due();

    private interface Act {
        int on(WalkTeller teller);
    }

    public static void main(String[] args) {
        townFindings();
        storyFindings();
        walkFindings();
        walkerFindings();
        goFindings();
        offerFindings();
        readingFindings();
        sheetFindings();
        copyFindings();
        fullFindings();
        storyEmptiesTheTape();
        youngFindings();
        questionsChangeNothing();
        actsThatComeToNothing();
        D.end();
    }

    // ---- the states

    /**
     * Five corners 20 apart, the last one without a way. Walker 0 was seen once at 1, to which a way
     * leads; walker 1 is over; walker 2 goes without stairs and was seen three times at 4; walker 3 is
     * at 4. The tape is a piece but for its end. Sheet 3 is MISSING.
     */
    private static WalkTeller busy() {
        WalkTeller t = new WalkTeller();
        for (int n = 0; n < 5; n++) {
            t.corner(20 * n, n);
        }
        t.way(0, 1, 3, false);
        t.way(1, 2, 4, true);
        t.way(0, 2, 9, false);
        t.way(2, 3, 2, false);
        t.way(0, 3, 20, true);
        t.shut(2, 2);
        t.shut(4, 4);
        Due.tell(t, "3e5;1p2;");
        t.walker(0, true);
        t.walker(3, true);
        Due.tell(t, "1p2;2s3a@24;3e1b;0t4l;4s1@5;");
        t.walker(0, false);
        t.walker(4, true);
        t.today(2);
        t.seen(0, 20, 1, 0);
        for (int n = 0; n < 3; n++) {
            t.seen(2, 80, 4, 0);
        }
        Due.feedText(t, "0s7al");
        fill(t, 0, 8, 40, 2, 0, 40, 2, 31);
        fill(t, 1, 16, 1, -2, 3, 70000);
        fill(t, 2, 32, 1, 2, 3, 4, 5, 6, 7, 8, 9, 10, 11, Integer.MIN_VALUE);
        return t;
    }

    /** All that can be full is, and a good text of 200 bytes is on the tape but for its last byte. */
    private static WalkTeller full() {
        WalkTeller t = Due.corners(8);
        for (int n = 0; n < 14; n++) {
            t.way(n % 8, (n + 1) % 8, 1 + n, n % 3 == 0);
        }
        for (int n = 0; n < 4; n++) {
            Due.tell(t, "0p1;" + n + "e" + (n + 1) + ";");
        }
        for (int n = 0; n < 6; n++) {
            t.walker(n + 2, n % 2 == 0);
        }
        for (int s = 0; s < 4; s++) {
            t.sheet(s, 8 << Math.min(s, 2), 12);
        }
        Due.feedText(t, "0s1abcdefghijkl@0123456;".repeat(8) + "0e2;0e2a");
        return t;
    }

    private static void fill(WalkTeller t, int s, int bits, int... numbers) {
        t.sheet(s, bits, numbers.length);
        for (int i = 0; i < numbers.length; i++) {
            t.write(s, i, numbers[i]);
        }
    }

    // ---- all that can be asked

    private static List<Integer> askAll(WalkTeller t) {
        List<Integer> answers = new ArrayList<>();
        for (int what = 0; what < 6; what++) {
            answers.add(t.told(what));
        }
        askWalkers(t, answers);
        askSheets(t, answers);
        askSightings(t, answers);
        askTown(t, answers);
        askStories(t, answers);
        askForMore(t, answers);
        return answers;
    }

    private static void askWalkers(WalkTeller t, List<Integer> answers) {
        int walkers = t.told(3);
        for (int walker = 0; walker < walkers; walker++) {
            for (int what = 0; what < 6; what++) {
                answers.add(t.about(walker, what));
            }
            answers.add(t.offer(walker));
            answers.add(t.rest(walker));
            answers.add(t.lost(walker));
        }
    }

    private static void askSheets(WalkTeller t, List<Integer> answers) {
        for (int s = 0; s < 4; s++) {
            answers.add(t.copy(s, 0, 1, 0, 0));
            answers.add(t.copy(s, 0, 2, 0, 0));
            for (int i = 0; i <= 12; i++) {
                answers.add(t.write(s, i, 5));
            }
        }
    }

    /** One more reading of each brings those there that were seen often enough. */
    private static void askSightings(WalkTeller t, List<Integer> answers) {
        answers.add(t.seen(0, 20, 1, 0));
        answers.add(t.seen(2, 80, 4, 0));
        answers.add(t.seen(3, 0, 0, 0));
        answers.add(t.go(0, 0));
        answers.add(t.today(5));
        askWalkers(t, answers);
    }

    private static void askTown(WalkTeller t, List<Integer> answers) {
        int corners = t.told(0);
        for (int a = 0; a < corners; a++) {
            answers.add(t.far(a, 0, a % 7, true));
            answers.add(t.far(a, corners - 1, 2, a % 2 == 0));
        }
        int ways = t.told(1);
        for (int way = 0; way < ways; way++) {
            answers.add(t.shut(way, 0));
        }
    }

    private static void askStories(WalkTeller t, List<Integer> answers) {
        answers.add(t.feed('@' | '3' << 8 | ';' << 16, 3));
        answers.add(t.story());
        int editions = t.told(2);
        for (int edition = 0; edition < editions; edition++) {
            for (int piece = 0; piece < 6; piece++) {
                for (int what = 0; what < 5; what++) {
                    answers.add(t.of(edition, piece, what));
                }
            }
            answers.add(t.quickest(edition, 0, 2, true));
        }
    }

    private static void askForMore(WalkTeller t, List<Integer> answers) {
        answers.add(t.corner(50, 50));
        answers.add(t.way(0, 4, 6, false));
        answers.add(t.walker(4, true));
        for (int what = 0; what < 6; what++) {
            answers.add(t.told(what));
        }
    }

    private static void same(String act, WalkTeller one, WalkTeller other, int more) {
        D.due(act + ": findings", one.told(6), other.told(6) + more);
        D.due(act + ": changes nothing", askAll(one).equals(askAll(other)) ? 1 : 0, 1);
        D.due(act + ": findings then", one.told(6), other.told(6) + more);
    }

    private static void finds(Supplier<WalkTeller> state, String act, int finding, Act call) {
        WalkTeller one = state.get();
        D.due(act, call.on(one), finding);
        same(act, one, state.get(), 1);
    }

    private static void inBusy(String act, int finding, Act call) {
        finds(FindingTest::busy, act, finding, call);
    }

    private static void inFull(String act, int finding, Act call) {
        finds(FindingTest::full, act, finding, call);
    }

    // ---- the findings

    private static void townFindings() {
        D.says("Promises 2 to 5, 14 and 25");
        inBusy("corner(100, 0)", Due.BEYOND, t -> t.corner(100, 0));
        inBusy("corner(0, -1)", Due.BEYOND, t -> t.corner(0, -1));
        inBusy("way(0, 5)", Due.BEYOND, t -> t.way(0, 5, 1, false));
        inBusy("way(-1, 0)", Due.BEYOND, t -> t.way(-1, 0, 1, false));
        inBusy("way(3, 3)", Due.BEYOND, t -> t.way(3, 3, 1, false));
        inBusy("way of length 0", Due.BEYOND, t -> t.way(0, 1, 0, false));
        inBusy("way of length 21", Due.BEYOND, t -> t.way(0, 4, 21, false));
        inBusy("shut(5, 0)", Due.BEYOND, t -> t.shut(5, 0));
        inBusy("shut(0, 128)", Due.BEYOND, t -> t.shut(0, 128));
        inBusy("shut(2, -1)", Due.BEYOND, t -> t.shut(2, -1));
        inBusy("far(0, 5)", Due.BEYOND, t -> t.far(0, 5, 0, true));
        inBusy("far on 7", Due.BEYOND, t -> t.far(0, 1, 7, true));
        inBusy("far(0, 4)", Due.NONE, t -> t.far(0, 4, 0, true));
        inBusy("far(0, 4) on 7", Due.BEYOND, t -> t.far(0, 4, 7, true));
        inBusy("today(7)", Due.BEYOND, t -> t.today(7));
        inBusy("today(-1)", Due.BEYOND, t -> t.today(-1));
        inBusy("told(7)", Due.BEYOND, t -> t.told(7));
        inBusy("told(-1)", Due.BEYOND, t -> t.told(-1));
    }

    private static void storyFindings() {
        D.says("Promises 6, 8 and 9");
        inBusy("feed of 0", Due.BEYOND, t -> t.feed(-1, 0));
        inBusy("feed of 9", Due.BEYOND, t -> t.feed(-1, 9));
        inBusy("as(2, 0, 0)", Due.BEYOND, t -> t.as(2, 0, 0));
        inBusy("as(0, 2, 0)", Due.BEYOND, t -> t.as(0, 2, 0));
        inBusy("as(0, 0, 4)", Due.BEYOND, t -> t.as(0, 0, 4));
        inBusy("as(0, 0, 1)", Due.KIND, t -> t.as(0, 0, 1));
        inBusy("as(0, 2, 1)", Due.BEYOND, t -> t.as(0, 2, 1));
        inBusy("of(2, 0, 0)", Due.BEYOND, t -> t.of(2, 0, 0));
        inBusy("of(1, 5, 0)", Due.BEYOND, t -> t.of(1, 5, 0));
        inBusy("of(0, 0, 5)", Due.BEYOND, t -> t.of(0, 0, 5));
    }

    private static void walkFindings() {
        D.says("Promises 10 to 12");
        inBusy("check of edition 2", Due.BEYOND, t -> t.check(2, 0, 0, true, 0));
        inBusy("check from 5", Due.BEYOND, t -> t.check(0, 5, 0, true, 0));
        inBusy("check on 7", Due.BEYOND, t -> t.check(0, 0, 7, true, 0));
        inBusy("check what 4", Due.BEYOND, t -> t.check(0, 0, 0, true, 4));
        inBusy("quickest of edition 2", Due.BEYOND, t -> t.quickest(2, 0, 0, true));
        inBusy("quickest from 5", Due.BEYOND, t -> t.quickest(0, 5, 0, true));
        inBusy("quickest on 7, from 4", Due.BEYOND, t -> t.quickest(0, 4, 7, true));
        inBusy("quickest from 4", Due.NONE, t -> t.quickest(0, 4, 0, true));
        inBusy("route of edition -1", Due.BEYOND, t -> t.route(-1, 0, 0, true, 0));
        inBusy("route from -1", Due.BEYOND, t -> t.route(0, -1, 0, true, 0));
        inBusy("route on -1", Due.BEYOND, t -> t.route(0, 0, -1, true, 0));
        inBusy("route, i -1", Due.BEYOND, t -> t.route(0, 0, 0, true, -1));
        inBusy("route, i -1, from 4", Due.BEYOND, t -> t.route(0, 4, 0, true, -1));
        inBusy("route from 4", Due.NONE, t -> t.route(0, 4, 0, true, 0));
    }

    private static void walkerFindings() {
        D.says("Promises 13, 16, 18 and 19");
        inBusy("walker at 5", Due.BEYOND, t -> t.walker(5, true));
        inBusy("about(4, 0)", Due.BEYOND, t -> t.about(4, 0));
        inBusy("about(0, 6)", Due.BEYOND, t -> t.about(0, 6));
        inBusy("rest(4)", Due.BEYOND, t -> t.rest(4));
        inBusy("rest(3)", Due.NONE, t -> t.rest(3));
        inBusy("lost(4)", Due.BEYOND, t -> t.lost(4));
        inBusy("lost(-1)", Due.BEYOND, t -> t.lost(-1));
    }

    private static void goFindings() {
        D.says("Promise 15");
        inBusy("no walker", Due.BEYOND, t -> t.go(4, 0));
        inBusy("no way", Due.BEYOND, t -> t.go(0, 5));
        inBusy("no way, over", Due.BEYOND, t -> t.go(1, 5));
        inBusy("over", Due.STATE, t -> t.go(1, 3));
        inBusy("over, not from here", Due.STATE, t -> t.go(1, 0));
        inBusy("over, shut", Due.STATE, t -> t.go(1, 4));
        inBusy("not from here", Due.NONE, t -> t.go(0, 1));
        inBusy("not from here, stairs", Due.NONE, t -> t.go(2, 1));
        inBusy("shut", Due.NONE, t -> t.go(0, 4));
        inBusy("shut, stairs", Due.NONE, t -> t.go(2, 4));
        inBusy("no way leads from here", Due.NONE, t -> t.go(3, 3));
        finds(FindingTest::tomorrow, "stairs", Due.KIND, t -> t.go(2, 4));
    }

    private static WalkTeller tomorrow() {
        WalkTeller t = busy();
        t.today(3);
        return t;
    }

    private static void offerFindings() {
        D.says("Promise 17");
        inBusy("no walker", Due.BEYOND, t -> t.offer(4));
        inBusy("over", Due.STATE, t -> t.offer(1));
        inBusy("none", Due.NONE, t -> t.offer(3));
        finds(FindingTest::cutOff, "over, none", Due.STATE, t -> t.offer(1));
        finds(FindingTest::cutOff, "all shut", Due.NONE, t -> t.offer(0));
    }

    private static WalkTeller cutOff() {
        WalkTeller t = busy();
        for (int way = 0; way < 5; way++) {
            t.shut(way, 127);
        }
        return t;
    }

    private static void readingFindings() {
        D.says("Promises 20 and 24");
        inBusy("no walker", Due.BEYOND, t -> t.seen(4, 0, 0, 0));
        inBusy("doubt 31 where it is", Due.BEYOND, t -> t.seen(0, 0, 0, 31));
        inBusy("doubt -1 where it was seen", Due.BEYOND, t -> t.seen(2, 80, 4, -1));
        inBusy("over", Due.STATE, t -> t.seen(1, 0, 0, 0));
        inBusy("over, doubt 31", Due.BEYOND, t -> t.seen(1, 0, 0, 31));
        inBusy("trace of sheet 4", Due.BEYOND, t -> t.trace(4, 0));
        inBusy("trace of walker 4", Due.BEYOND, t -> t.trace(0, 4));
        inBusy("trace of a missing sheet", Due.MISSING, t -> t.trace(3, 0));
        inBusy("trace of a missing sheet, no walker", Due.BEYOND, t -> t.trace(3, 4));
        inBusy("trace of a missing sheet, over", Due.MISSING, t -> t.trace(3, 1));
    }

    private static void sheetFindings() {
        D.says("Promises 21 and 22");
        inBusy("sheet 4", Due.BEYOND, t -> t.sheet(4, 8, 1));
        inBusy("bits 7", Due.BEYOND, t -> t.sheet(0, 7, 1));
        inBusy("bits 7, n -1", Due.BEYOND, t -> t.sheet(0, 7, -1));
        inBusy("sheet -1, n -1", Due.BEYOND, t -> t.sheet(-1, 8, -1));
        inBusy("n -1", Due.SIZE, t -> t.sheet(0, 8, -1));
        inBusy("n -1, bits 0", Due.SIZE, t -> t.sheet(0, 0, -1));
        inBusy("n 13", Due.BEYOND, t -> t.sheet(0, 16, 13));
        inBusy("n 13, bits 0", Due.BEYOND, t -> t.sheet(0, 0, 13));
        inBusy("n 13 of a missing one", Due.BEYOND, t -> t.sheet(3, 16, 13));
        inBusy("write to sheet 4", Due.BEYOND, t -> t.write(4, 0, 9));
        inBusy("write to a missing one", Due.MISSING, t -> t.write(3, 0, 9));
        inBusy("write to a missing one, i -1", Due.MISSING, t -> t.write(3, -1, 9));
        inBusy("write, i -1", Due.BEYOND, t -> t.write(0, -1, 9));
        inBusy("write, i 6", Due.BEYOND, t -> t.write(0, 6, 9));
        inBusy("write, i 12", Due.BEYOND, t -> t.write(2, 12, 9));
    }

    private static void copyFindings() {
        D.says("Promise 23");
        inBusy("from sheet 4", Due.BEYOND, t -> t.copy(4, 0, 0, 0, 1));
        inBusy("to sheet 4", Due.BEYOND, t -> t.copy(0, 0, 4, 0, 1));
        inBusy("to sheet 4 from a missing one", Due.BEYOND, t -> t.copy(3, 0, 4, 0, 1));
        inBusy("from a missing one", Due.MISSING, t -> t.copy(3, 0, 0, 0, 1));
        inBusy("to a missing one", Due.MISSING, t -> t.copy(0, 0, 3, 0, 1));
        inBusy("to a missing one, n -1", Due.MISSING, t -> t.copy(0, 0, 3, 0, -1));
        inBusy("other bits", Due.KIND, t -> t.copy(0, 0, 1, 0, 1));
        inBusy("other bits, n -1", Due.KIND, t -> t.copy(0, 0, 1, 0, -1));
        inBusy("other bits, too many", Due.KIND, t -> t.copy(0, 0, 1, 0, 5));
        inBusy("too many within", Due.BEYOND, t -> t.copy(2, 0, 2, 1, 12));
        inBusy("from -1", Due.BEYOND, t -> t.copy(2, -1, 2, 1, 3));
        inBusy("to -1", Due.BEYOND, t -> t.copy(2, 1, 2, -1, 3));
        inBusy("n -1", Due.BEYOND, t -> t.copy(2, 1, 2, 5, -1));
    }

    private static void fullFindings() {
        D.says("Promises 2, 3, 6 and 13: BEYOND is asked ahead of FULL");
        inFull("a ninth corner", Due.FULL, t -> t.corner(0, 0));
        inFull("a ninth corner, x 100", Due.BEYOND, t -> t.corner(100, 0));
        inFull("a fifteenth way", Due.FULL, t -> t.way(0, 1, 1, false));
        inFull("a fifteenth way, to 8", Due.BEYOND, t -> t.way(0, 8, 1, false));
        inFull("a fifteenth way, 1 to 1", Due.BEYOND, t -> t.way(1, 1, 1, false));
        inFull("a fifteenth way, length 0", Due.BEYOND, t -> t.way(0, 1, 0, false));
        inFull("a 201st byte", Due.FULL, t -> t.feed(';', 1));
        inFull("nine more", Due.BEYOND, t -> t.feed(';', 9));
        inFull("none more", Due.BEYOND, t -> t.feed(';', 0));
        inFull("a seventh walker", Due.FULL, t -> t.walker(0, true));
        inFull("a seventh walker, at 8", Due.BEYOND, t -> t.walker(8, true));
        finds(FindingTest::almostFull, "8 bytes where 7 fit", Due.FULL, t -> t.feed(0x3B3B3B3B3B3B3B3BL, 8));
    }

    private static WalkTeller almostFull() {
        WalkTeller t = busy();
        Due.feedText(t, "x".repeat(188));
        return t;
    }

    private static WalkTeller emptyTape() {
        WalkTeller t = busy();
        t.story();
        return t;
    }

    private static WalkTeller fourEditions() {
        WalkTeller t = emptyTape();
        Due.tell(t, "2e1;");
        Due.tell(t, "2e2;");
        return t;
    }

    /** The tape is what story() changes with a finding; all else is as without the text. */
    private static void storyEmptiesTheTape() {
        D.says("Promise 7: The tape is empty then, whatever is answered; WRONG is asked ahead of FULL");
        String[] texts = {"", "0p1", "5p1;", "0p1;".repeat(13), "0e1;0e1;!"};
        int[] places = {0, 3, 0, 48, 8};
        for (int n = 0; n < texts.length; n++) {
            wrongText(emptyTape(), emptyTape(), texts[n], Due.WRONG - places[n]);
            wrongText(fourEditions(), fourEditions(), texts[n], Due.WRONG - places[n]);
        }
        wrongText(fourEditions(), fourEditions(), "0e1;", Due.FULL);
        WalkTeller t = full();
        D.due("200 bytes", t.story(), -1000300);
        D.due("the tape", t.told(5), 0);
        D.due("findings", t.told(6), 1);
    }

    private static void wrongText(WalkTeller one, WalkTeller other, String text, int finding) {
        Due.feedText(one, text);
        D.due("story() of " + text, one.story(), finding);
        same("story() of " + text, one, other, 1);
    }

    private static void youngFindings() {
        D.says("Promises 1 and 13: BEYOND is asked ahead of STATE");
        finds(WalkTeller::new, "walker without corners", Due.BEYOND, t -> t.walker(0, true));
        finds(WalkTeller::new, "far without corners", Due.BEYOND, t -> t.far(0, 0, 0, true));
        finds(WalkTeller::new, "write", Due.MISSING, t -> t.write(0, 0, 1));
        finds(() -> Due.street(5), "no edition", Due.STATE, t -> t.walker(0, true));
        finds(() -> Due.street(5), "no edition, no corner", Due.BEYOND, t -> t.walker(5, true));
    }

    // ---- what answers no finding, and changes nothing

    private static void still(String act, int answer, Act call) {
        WalkTeller one = busy();
        D.due(act, call.on(one), answer);
        same(act, one, busy(), 0);
    }

    private static void questionsChangeNothing() {
        D.says("Promises 5, 8 to 12, 16 to 19 and 25: a question changes nothing");
        still("far", 7, t -> t.far(0, 2, 0, true));
        still("as", 0, t -> t.as(0, 0, 2));
        still("of", 127, t -> t.of(0, 0, 4));
        still("check", 10, t -> t.check(0, 0, 0, true, 0));
        still("quickest", 16, t -> t.quickest(0, 0, 2, true));
        still("route", 1, t -> t.route(0, 0, 2, true, 0));
        still("route behind the last one", -1, t -> t.route(0, 0, 2, true, 9));
        still("about", 2, t -> t.about(0, 5) + 3);
        still("offer", 1, t -> t.offer(0));
        still("rest", 16, t -> t.rest(0));
        still("lost", 0, t -> t.lost(0));
        still("told", 5, t -> t.told(5));
        still("told(6)", 0, t -> t.told(6));
    }

    private static void actsThatComeToNothing() {
        D.says("Promises 4, 14 and 20 to 24: acts that come to nothing");
        still("today(2) again", 2, t -> t.today(2));
        still("shut(2, 2) again", 2, t -> t.shut(2, 2));
        still("none possible", 0, t -> t.seen(0, 30, 50, 9));
        still("several possible without it", 0, t -> t.seen(2, 30, 1, 10));
        still("the same number written", 40, t -> t.write(0, 3, 40 + 256));
        still("none copied", 0, t -> t.copy(2, 12, 2, 0, 0));
        still("to where they were", 12, t -> t.copy(2, 0, 2, 0, 12));
        still("missing as it was", 0, t -> t.sheet(3, 0, 12));
        still("trace of one who is over", 0, t -> t.trace(2, 1));
    }
}
