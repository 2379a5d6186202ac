/** The edges of the sixth term and of promises 21 to 23 and 25, sentence by sentence. */
public final class SheetEdgeTest {
    private static final Due D = new Due();
    private static final int MOST = Integer.MAX_VALUE;
    private static final int LEAST = Integer.MIN_VALUE;
    private static final int[] BITS = {8, 16, 32};

    public static void main(String[] args) {
        fourSheets();
        bitsOfASheet();
        upToTwelveNumbers();
        allNought();
        missing();
        sheetOrder();
        whatItWas();
        lowestBits();
        writeFindings();
        writeOrder();
        copyCounts();
        asTheyAllWere();
        copyFindings();
        copyOrder();
        toldWhats();
        toldFindings();
        toldCountsEachAct();
        D.end();
    }

    private static void fourSheets() {
        D.says("Terms 6: SHEETS 0 to 3, MISSING (all, at first); Promise 21: BEYOND: no such sheet");
        WalkTeller t = new WalkTeller();
        for (int v : Due.outside(0, 3)) {
            D.due("sheet " + v, t.sheet(v, 8, 1), Due.BEYOND);
            D.due("sheet " + v + " to be missing", t.sheet(v, 0, 0), Due.BEYOND);
        }
        for (int s = 0; s < 4; s++) {
            D.due("missing " + s, t.write(s, 0, 0), Due.MISSING);
        }
        for (int s = 0; s < 4; s++) {
            D.due("sheet " + s, t.sheet(s, 8, s + 1), s + 1);
        }
        for (int s = 0; s < 4; s++) {
            D.due("last of " + s, t.write(s, s, 1), 0);
            D.due("behind it", t.write(s, s + 1, 1), Due.BEYOND);
        }
    }

    private static void bitsOfASheet() {
        D.says("Promise 21: of 8, 16 or 32 bits; bits 0. BEYOND: no such bits");
        WalkTeller t = new WalkTeller();
        for (int bits = -40; bits <= 300; bits++) {
            boolean are = bits == 0 || bits == 8 || bits == 16 || bits == 32;
            D.due("bits " + bits, t.sheet(1, bits, 4), are ? bits == 0 ? 0 : 4 : Due.BEYOND);
        }
        for (int v : new int[] {LEAST, LEAST + 8, LEAST + 32, MOST, 65536, 65536 + 8, 1 << 30}) {
            D.due("bits " + v, t.sheet(1, v, 4), Due.BEYOND);
        }
    }

    private static void upToTwelveNumbers() {
        D.says("Terms 6: up to 12 numbers; Promise 21: SIZE: n is below 0. BEYOND: n is above 12. Else n");
        WalkTeller t = new WalkTeller();
        for (int bits : BITS) {
            for (int v : Due.outside(0, 12)) {
                D.due("n " + v + " of " + bits, t.sheet(0, bits, v), v < 0 ? Due.SIZE : Due.BEYOND);
                D.due("still missing", t.write(0, 0, 0), Due.MISSING);
            }
        }
        for (int bits : BITS) {
            for (int n = 0; n <= 12; n++) {
                D.due("n " + n + " of " + bits, t.sheet(0, bits, n), n);
                D.due("the last one", t.write(0, n - 1, 3), n == 0 ? Due.BEYOND : 0);
                D.due("none behind it", t.write(0, n, 3), Due.BEYOND);
            }
        }
    }

    private static void allNought() {
        D.says("Promise 21: A sheet has n numbers, all 0");
        WalkTeller t = new WalkTeller();
        for (int bits : BITS) {
            for (int again = 0; again < 2; again++) {
                t.sheet(2, bits, 12);
                for (int i = 0; i < 12; i++) {
                    D.due("number " + i + " of " + bits, t.write(2, i, -1), 0);
                }
            }
        }
    }

    private static void missing() {
        D.says("Promise 21: bits 0: it is MISSING: 0");
        WalkTeller t = new WalkTeller();
        D.due("missing already", t.sheet(0, 0, 0), 0);
        for (int n = 0; n <= 12; n++) {
            t.sheet(0, 16, 3);
            D.due("n " + n, t.sheet(0, 0, n), 0);
            D.due("is missing", t.write(0, 0, 0), Due.MISSING);
        }
        t.sheet(1, 8, 2);
        t.write(1, 1, 9);
        D.due("another one", t.sheet(0, 0, 12), 0);
        D.due("the other is as it was", t.write(1, 1, 9), 9);
        D.says("Promise 21: SIZE and BEYOND of n are asked with bits 0, too");
        for (int v : Due.outside(0, 12)) {
            D.due("bits 0, n " + v, t.sheet(1, 0, v), v < 0 ? Due.SIZE : Due.BEYOND);
            D.due("not missing for that", t.write(1, 1, 9), 9);
        }
    }

    private static void sheetOrder() {
        D.says("Promise 21: BEYOND (sheet, bits) is asked ahead of SIZE");
        WalkTeller t = new WalkTeller();
        D.due("no sheet 4, n -1", t.sheet(4, 8, -1), Due.BEYOND);
        D.due("no sheet -1, n -1", t.sheet(-1, 8, -1), Due.BEYOND);
        D.due("no bits 7, n -1", t.sheet(0, 7, -1), Due.BEYOND);
        D.due("no bits -1, n least", t.sheet(0, -1, LEAST), Due.BEYOND);
        D.due("neither, n -1", t.sheet(4, 64, -1), Due.BEYOND);
    }

    private static void whatItWas() {
        D.says("Promise 22: Number i of a sheet becomes v: what it was");
        WalkTeller t = new WalkTeller();
        for (int s = 0; s < 4; s++) {
            t.sheet(s, 32, 12);
        }
        for (int s = 0; s < 4; s++) {
            for (int i = 0; i < 12; i++) {
                D.due("at first", t.write(s, i, 100 * s + i), 0);
            }
        }
        for (int s = 0; s < 4; s++) {
            for (int i = 0; i < 12; i++) {
                D.due("number " + i + " of " + s, t.write(s, i, 0), 100 * s + i);
            }
        }
    }

    private static void lowestBits() {
        D.says("Promise 22: v (its lowest bits), any int");
        int[] values = {0, 1, -1, 127, 128, 129, 255, 256, -127, -128, -129, -256, 32767, 32768, 65535, 65536,
            -32768, -32769, -65536, 70000, MOST, LEAST, MOST - 1, LEAST + 1, 0x12345678, 0x7FFF0080, 0x00FF8000};
        WalkTeller t = new WalkTeller();
        for (int n = 0; n < 3; n++) {
            t.sheet(n, BITS[n], 1);
        }
        for (int v : values) {
            for (int n = 0; n < 3; n++) {
                t.write(n, 0, v);
                int want = n == 0 ? (byte) v : n == 1 ? (short) v : v;
                D.due(BITS[n] + " bits of " + v, t.write(n, 0, 0), want);
            }
        }
    }

    private static void writeFindings() {
        D.says("Promise 22: BEYOND: no such sheet. MISSING. BEYOND: no such number");
        WalkTeller t = new WalkTeller();
        for (int s = 0; s < 4; s++) {
            D.due("missing " + s, t.write(s, 0, 1), Due.MISSING);
            t.sheet(s, 8, 12);
        }
        for (int v : Due.outside(0, 3)) {
            D.due("sheet " + v, t.write(v, 0, 1), Due.BEYOND);
        }
        for (int n : new int[] {0, 1, 2, 11, 12}) {
            for (int bits : BITS) {
                t.sheet(0, bits, n);
                for (int v : new int[] {-1, n, n + 1, 12, 13, 32, 256, LEAST, MOST}) {
                    D.due("number " + v + " of " + n, t.write(0, v, 1), v >= 0 && v < n ? 0 : Due.BEYOND);
                }
            }
        }
    }

    private static void writeOrder() {
        D.says("Promise 22: MISSING is asked ahead of BEYOND of the number, BEYOND of the sheet ahead of both");
        WalkTeller t = new WalkTeller();
        for (int v : Due.outside(0, 12)) {
            D.due("missing, number " + v, t.write(0, v, 1), Due.MISSING);
        }
        D.due("no sheet, which would be missing", t.write(4, 0, 1), Due.BEYOND);
        D.due("no sheet, no number", t.write(-1, -1, 1), Due.BEYOND);
    }

    /** Sheet 0: 1 to 12; sheet 1: 12 zeros; sheet 2: 5 zeros; all of 16 bits. */
    private static WalkTeller rows() {
        WalkTeller t = new WalkTeller();
        t.sheet(0, 16, 12);
        t.sheet(1, 16, 12);
        t.sheet(2, 16, 5);
        for (int i = 0; i < 12; i++) {
            t.write(0, i, i + 1);
        }
        return t;
    }

    private static void expect(WalkTeller t, int s, int... numbers) {
        for (int i = 0; i < numbers.length; i++) {
            int was = t.write(s, i, 0);
            t.write(s, i, was);
            D.due("number " + i + " of sheet " + s, was, numbers[i]);
        }
    }

    private static void copyCounts() {
        D.says("Promise 23: n numbers of a sheet from one on come to another one from one on: n");
        for (int n = 0; n <= 5; n++) {
            for (int from : new int[] {0, 3, 12 - n}) {
                for (int to : new int[] {0, 5 - n}) {
                    WalkTeller t = rows();
                    D.due("copy", t.copy(0, from, 2, to, n), n);
                    int[] want = new int[5];
                    for (int i = 0; i < n; i++) {
                        want[to + i] = from + i + 1;
                    }
                    expect(t, 2, want);
                    expect(t, 0, 1, 2, 3, 4, 5, 6, 7, 8, 9, 10, 11, 12);
                }
            }
        }
        WalkTeller t = rows();
        D.due("all twelve", t.copy(0, 0, 1, 0, 12), 12);
        expect(t, 1, 1, 2, 3, 4, 5, 6, 7, 8, 9, 10, 11, 12);
        t.write(0, 0, 99);
        D.due("they are not one row then", t.write(1, 0, 0), 1);
        for (int bits : BITS) {
            WalkTeller u = new WalkTeller();
            u.sheet(0, bits, 2);
            u.sheet(3, bits, 1);
            u.write(0, 1, -5);
            D.due("of " + bits + " bits", u.copy(0, 1, 3, 0, 1), 1);
            D.due("came", u.write(3, 0, 0), -5);
        }
        D.says("Promise 23: none of no numbers, up to behind the last one");
        WalkTeller v = new WalkTeller();
        v.sheet(0, 8, 0);
        v.sheet(1, 8, 12);
        D.due("of an empty one to itself", v.copy(0, 0, 0, 0, 0), 0);
        D.due("of an empty one", v.copy(0, 0, 1, 12, 0), 0);
        D.due("to an empty one", v.copy(1, 12, 0, 0, 0), 0);
        D.due("one of an empty one", v.copy(0, 0, 1, 0, 1), Due.BEYOND);
        D.due("one to an empty one", v.copy(1, 0, 0, 0, 1), Due.BEYOND);
    }

    private static void asTheyAllWere() {
        D.says("Promise 23: (as they all were)");
        for (int from = 0; from < 12; from++) {
            for (int to = 0; to < 12; to++) {
                int n = 12 - Math.max(from, to);
                WalkTeller t = rows();
                D.due("within a sheet", t.copy(0, from, 0, to, n), n);
                int[] want = new int[12];
                for (int i = 0; i < 12; i++) {
                    want[i] = i >= to && i < to + n ? from + i - to + 1 : i + 1;
                }
                expect(t, 0, want);
            }
        }
    }

    private static void copyFindings() {
        D.says("Promise 23: BEYOND: no such sheet (either). MISSING: one is. KIND: they are not of as many bits");
        WalkTeller t = rows();
        for (int v : Due.outside(0, 3)) {
            D.due("from sheet " + v, t.copy(v, 0, 0, 0, 1), Due.BEYOND);
            D.due("to sheet " + v, t.copy(0, 0, v, 0, 1), Due.BEYOND);
            D.due("both " + v, t.copy(v, 0, v, 0, 1), Due.BEYOND);
        }
        D.due("from a missing one", t.copy(3, 0, 0, 0, 1), Due.MISSING);
        D.due("to a missing one", t.copy(0, 0, 3, 0, 1), Due.MISSING);
        D.due("none from a missing one", t.copy(3, 0, 0, 0, 0), Due.MISSING);
        D.due("from a missing one to itself", t.copy(3, 0, 3, 0, 0), Due.MISSING);
        for (int one : BITS) {
            for (int two : BITS) {
                t.sheet(1, one, 3);
                t.sheet(3, two, 3);
                D.due(one + " and " + two, t.copy(1, 0, 3, 0, 0), one == two ? 0 : Due.KIND);
                D.due(one + " and " + two + ", 3", t.copy(1, 0, 3, 0, 3), one == two ? 3 : Due.KIND);
            }
        }
        D.says("Promise 23: BEYOND: one has not so many, or from, to or n is below 0");
        WalkTeller u = rows();
        for (int v : Due.outside(0, 5)) {
            D.due("n " + v, u.copy(0, 0, 2, 0, v), Due.BEYOND);
            D.due("n " + v + " the other way", u.copy(2, 0, 0, 0, v), Due.BEYOND);
            D.due("none from " + v, u.copy(2, v, 0, 0, 0), Due.BEYOND);
            D.due("none to " + v, u.copy(0, 0, 2, v, 0), Due.BEYOND);
        }
        for (int v : Due.outside(0, 4)) {
            D.due("one from " + v, u.copy(2, v, 0, 0, 1), Due.BEYOND);
            D.due("one to " + v, u.copy(0, 0, 2, v, 1), Due.BEYOND);
        }
        int[][] ends = {{LEAST, LEAST, LEAST}, {MOST, MOST, MOST}, {1, 1, MOST}, {MOST, 0, MOST}, {0, MOST, MOST},
            {MOST, MOST, LEAST}, {LEAST, 0, MOST}, {-1, 0, 2}, {0, -1, 2}, {2, 2, -1}, {-1, -1, 1}, {5, 0, -5}};
        for (int[] e : ends) {
            D.due(e[0] + ", " + e[1] + ", " + e[2], u.copy(2, e[0], 2, e[1], e[2]), Due.BEYOND);
        }
        expect(u, 2, 0, 0, 0, 0, 0);
        expect(u, 0, 1, 2, 3, 4, 5, 6, 7, 8, 9, 10, 11, 12);
    }

    private static void copyOrder() {
        D.says("Promise 23: BEYOND (sheet), MISSING, KIND, BEYOND are asked in this order");
        WalkTeller t = rows();
        t.sheet(1, 8, 3);
        D.due("no sheet to, from a missing one", t.copy(3, 0, 4, 0, 0), Due.BEYOND);
        D.due("no sheet from, to a missing one", t.copy(-1, 0, 3, 0, 0), Due.BEYOND);
        D.due("missing, n -1", t.copy(3, 0, 0, 0, -1), Due.MISSING);
        D.due("to a missing one, from -1", t.copy(0, -1, 3, 0, 0), Due.MISSING);
        D.due("to a missing one, too many", t.copy(0, 0, 3, 0, 13), Due.MISSING);
        D.due("other bits, n -1", t.copy(0, 0, 1, 0, -1), Due.KIND);
        D.due("other bits, from -1", t.copy(1, -1, 0, 0, 1), Due.KIND);
        D.due("other bits, to -1", t.copy(1, 0, 0, -1, 1), Due.KIND);
        D.due("other bits, too many", t.copy(0, 0, 1, 0, 4), Due.KIND);
    }

    private static void toldWhats() {
        D.says("Promise 25: 0 CORNERS, 1 WAYS, 2 EDITIONS, 3 WALKERS, 4 TODAY, 5 bytes of the tape, 6 findings");
        WalkTeller t = Due.corners(8);
        for (int n = 0; n < 14; n++) {
            t.way(0, 1, 1, false);
        }
        for (int n = 0; n < 4; n++) {
            Due.tell(t, "0p1;");
        }
        for (int n = 0; n < 6; n++) {
            t.walker(0, true);
        }
        t.today(6);
        Due.feedText(t, "x".repeat(200));
        int[] full = {8, 14, 4, 6, 6, 200, 0};
        for (int what = 0; what < 7; what++) {
            D.due("told(" + what + ")", t.told(what), full[what]);
        }
    }

    private static void toldFindings() {
        D.says("Promise 25: BEYOND: another what; 6: this one, too, if it does");
        WalkTeller t = new WalkTeller();
        int count = 0;
        for (int v : Due.outside(0, 6)) {
            D.due("what " + v, t.told(v), Due.BEYOND);
            count++;
            D.due("it counts", t.told(6), count);
        }
        D.due("told(6) answered none", t.told(6), count);
    }

    private static void toldCountsEachAct() {
        D.says("Promise 25: 6 how many acts answered a finding ever");
        WalkTeller t = Due.corners(2);
        Due.tell(t, "1e1;");
        t.walker(0, true);
        int[] answers = {t.corner(-1, 0), t.way(0, 0, 1, true), t.shut(0, 0), t.far(0, 1, 0, true), t.feed(0, 0),
            t.story(), t.as(0, 0, 1), t.of(0, 0, 9), t.check(0, 0, 0, true, 9), t.quickest(0, 0, 0, true),
            t.route(0, 0, 0, true, 0), t.walker(9, true), t.today(9), t.go(0, 0), t.about(0, 9), t.offer(0),
            t.rest(0), t.lost(9), t.seen(0, 0, 0, 99), t.sheet(0, 8, -1), t.write(0, 0, 0), t.copy(0, 0, 0, 0, 0),
            t.trace(0, 0), t.told(9)};
        for (int n = 0; n < answers.length; n++) {
            D.due("act " + n + " answered a finding", answers[n] < -1000000 ? 1 : 0, 1);
        }
        D.due("each of 24 counts once", t.told(6), 24);
        D.says("Promise 12, 16, 25: -1 is no finding");
        D.due("route", t.route(0, 1, 0, true, 0), -1);
        D.due("about", t.about(0, 5), -1);
        D.due("still 24", t.told(6), 24);
        D.says("Promise 24, 25: a trace that stops has answered no finding");
        t.sheet(0, 8, 3);
        t.write(0, 2, 31);
        D.due("trace", t.trace(0, 0), 0);
        D.due("still 24", t.told(6), 24);
    }
}
