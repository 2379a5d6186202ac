/** Promises 21 to 23 and 25: sheet, write, copy, told. */
public final class SheetTest {
    private static final Due D = new Due();

    public static void main(String[] args) {
        sheet();
        sheetAnew();
        missingFindings();
        write();
        lowestBits();
        copy();
        copyOverItself();
        copyFindings();
        told();
        D.end();
    }

    private static void sheet() {
        WalkTeller t = new WalkTeller();
        D.due("sheet 4", t.sheet(4, 8, 1), Due.BEYOND);
        D.due("sheet -1", t.sheet(-1, 8, 1), Due.BEYOND);
        D.due("bits 7", t.sheet(0, 7, 1), Due.BEYOND);
        D.due("bits 24", t.sheet(0, 24, 1), Due.BEYOND);
        D.due("bits 64", t.sheet(0, 64, 1), Due.BEYOND);
        D.due("bits -8", t.sheet(0, -8, 1), Due.BEYOND);
        D.due("bits ahead of size", t.sheet(0, 1, -1), Due.BEYOND);
        D.due("sheet ahead of bits 0", t.sheet(4, 0, 0), Due.BEYOND);
        D.due("n -1", t.sheet(0, 8, -1), Due.SIZE);
        D.due("n least", t.sheet(0, 32, Integer.MIN_VALUE), Due.SIZE);
        D.due("n 13", t.sheet(0, 8, 13), Due.BEYOND);
        D.due("n most", t.sheet(0, 16, Integer.MAX_VALUE), Due.BEYOND);
        D.due("still missing", t.write(0, 0, 0), Due.MISSING);
        D.due("n 0", t.sheet(0, 8, 0), 0);
        D.due("not missing, but empty", t.write(0, 0, 0), Due.BEYOND);
        D.due("n 12", t.sheet(3, 32, 12), 12);
        D.due("the last one", t.write(3, 11, 5), 0);
    }

    private static void sheetAnew() {
        WalkTeller t = new WalkTeller();
        t.sheet(2, 16, 3);
        t.write(2, 1, 7);
        D.due("a finding changes nothing", t.sheet(2, 16, 13), Due.BEYOND);
        D.due("as it was", t.write(2, 1, 8), 7);
        D.due("anew", t.sheet(2, 16, 3), 3);
        D.due("all 0", t.write(2, 1, 9), 0);
        D.due("missing", t.sheet(2, 0, 5), 0);
        D.due("is missing", t.write(2, 1, 0), Due.MISSING);
        D.due("missing again", t.sheet(2, 0, 0), 0);
    }

    /** That a sheet is to be MISSING does not spare n its findings. */
    private static void missingFindings() {
        WalkTeller t = new WalkTeller();
        t.sheet(2, 16, 3);
        t.write(2, 1, 7);
        D.due("bits 0, n -1", t.sheet(2, 0, -1), Due.SIZE);
        D.due("bits 0, n least", t.sheet(2, 0, Integer.MIN_VALUE), Due.SIZE);
        D.due("bits 0, n 13", t.sheet(2, 0, 13), Due.BEYOND);
        D.due("bits 0, n most", t.sheet(2, 0, Integer.MAX_VALUE), Due.BEYOND);
        D.due("no sheet ahead of size", t.sheet(4, 0, -1), Due.BEYOND);
        D.due("each is counted", t.told(6), 5);
        D.due("and the sheet is as it was", t.write(2, 1, 8), 7);
        D.due("bits 0, n 12", t.sheet(2, 0, 12), 0);
        D.due("is missing", t.write(2, 1, 0), Due.MISSING);
    }

    private static void write() {
        WalkTeller t = new WalkTeller();
        t.sheet(1, 8, 2);
        D.due("sheet 4", t.write(4, 0, 0), Due.BEYOND);
        D.due("sheet -1", t.write(-1, 0, 0), Due.BEYOND);
        D.due("missing", t.write(0, 0, 0), Due.MISSING);
        D.due("missing ahead of beyond", t.write(0, 99, 0), Due.MISSING);
        D.due("number 2", t.write(1, 2, 0), Due.BEYOND);
        D.due("number -1", t.write(1, -1, 0), Due.BEYOND);
        D.due("number 0", t.write(1, 0, 5), 0);
        D.due("number 1", t.write(1, 1, 6), 0);
        D.due("number 0 was", t.write(1, 0, 0), 5);
        D.due("number 1 was", t.write(1, 1, 0), 6);
    }

    private static void lowestBits() {
        WalkTeller t = new WalkTeller();
        int[] values = {127, 128, 255, 256, -1, -129, 32767, 32768, 65535, 65537, 70000, -40000,
            Integer.MAX_VALUE, Integer.MIN_VALUE, -1000001};
        t.sheet(0, 8, 1);
        t.sheet(1, 16, 1);
        t.sheet(2, 32, 1);
        for (int v : values) {
            t.write(0, 0, v);
            t.write(1, 0, v);
            t.write(2, 0, v);
            D.due("8 bits of " + v, t.write(0, 0, 0), (byte) v);
            D.due("16 bits of " + v, t.write(1, 0, 0), (short) v);
            D.due("32 bits of " + v, t.write(2, 0, 0), v);
        }
        D.due("what a number was is no finding", t.told(6), 0);
    }

    private static void expect(WalkTeller t, int s, int... numbers) {
        for (int i = 0; i < numbers.length; i++) {
            int was = t.write(s, i, 0);
            t.write(s, i, was);
            D.due("number " + i + " of sheet " + s, was, numbers[i]);
        }
    }

    private static WalkTeller counting() {
        WalkTeller t = new WalkTeller();
        t.sheet(0, 16, 5);
        t.sheet(1, 16, 4);
        t.sheet(2, 8, 5);
        for (int i = 0; i < 5; i++) {
            t.write(0, i, i + 1);
        }
        return t;
    }

    private static void copy() {
        WalkTeller t = counting();
        D.due("copy", t.copy(0, 2, 1, 0, 3), 3);
        expect(t, 1, 3, 4, 5, 0);
        expect(t, 0, 1, 2, 3, 4, 5);
        D.due("none", t.copy(0, 5, 1, 4, 0), 0);
        D.due("to the last", t.copy(0, 0, 1, 3, 1), 1);
        expect(t, 1, 3, 4, 5, 1);
    }

    private static void copyOverItself() {
        WalkTeller t = counting();
        D.due("forward", t.copy(0, 0, 0, 1, 4), 4);
        expect(t, 0, 1, 1, 2, 3, 4);
        D.due("backward", t.copy(0, 2, 0, 0, 3), 3);
        expect(t, 0, 2, 3, 4, 3, 4);
        D.due("to itself", t.copy(0, 0, 0, 0, 5), 5);
        expect(t, 0, 2, 3, 4, 3, 4);
    }

    private static void copyFindings() {
        WalkTeller t = counting();
        int most = Integer.MAX_VALUE;
        D.due("from sheet 4", t.copy(4, 0, 0, 0, 0), Due.BEYOND);
        D.due("to sheet 4", t.copy(3, 0, 4, 0, 0), Due.BEYOND);
        D.due("from sheet -1", t.copy(-1, 0, 0, 0, 0), Due.BEYOND);
        D.due("to sheet -1", t.copy(0, 0, -1, 0, 0), Due.BEYOND);
        D.due("from missing", t.copy(3, 0, 0, 0, 9), Due.MISSING);
        D.due("to missing", t.copy(0, 0, 3, 0, -9), Due.MISSING);
        D.due("both missing", t.copy(3, 0, 3, 0, 0), Due.MISSING);
        D.due("other bits", t.copy(0, 0, 2, 0, 1), Due.KIND);
        D.due("other bits ahead of beyond", t.copy(0, 9, 2, 0, 1), Due.KIND);
        D.due("from -1", t.copy(0, -1, 1, 0, 1), Due.BEYOND);
        D.due("to -1", t.copy(0, 0, 1, -1, 1), Due.BEYOND);
        D.due("n -1", t.copy(0, 2, 1, 2, -1), Due.BEYOND);
        D.due("too many of the first", t.copy(1, 0, 0, 0, 5), Due.BEYOND);
        D.due("too many of the second", t.copy(0, 0, 1, 0, 5), Due.BEYOND);
        D.due("none from 6", t.copy(0, 6, 1, 0, 0), Due.BEYOND);
        D.due("none to 5", t.copy(0, 0, 1, 5, 0), Due.BEYOND);
        D.due("from most", t.copy(0, most, 1, 0, 1), Due.BEYOND);
        D.due("to most", t.copy(0, 0, 1, most, 1), Due.BEYOND);
        D.due("n most", t.copy(0, 1, 1, 1, most), Due.BEYOND);
        D.due("all least", t.copy(0, ~most, 1, ~most, ~most), Due.BEYOND);
        D.due("findings", t.told(6), 20);
        expect(t, 1, 0, 0, 0, 0);
    }

    private static void told() {
        WalkTeller t = Due.street(4);
        Due.tell(t, "0p1;");
        Due.tell(t, "1e1;");
        t.walker(0, true);
        t.today(6);
        t.feed(0, 5);
        int[] want = {4, 3, 2, 1, 6, 5, 0};
        for (int what = 0; what < 7; what++) {
            D.due("told(" + what + ")", t.told(what), want[what]);
        }
        D.due("told(7)", t.told(7), Due.BEYOND);
        D.due("told(-1)", t.told(-1), Due.BEYOND);
        D.due("each counts", t.told(6), 2);
        D.due("a wrong text", t.story(), Due.WRONG);
        D.due("counts, too", t.told(6), 3);
        D.due("told(6) itself does not", t.told(6), 3);
    }
}
