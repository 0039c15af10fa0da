/** The edges that promises 8 to 11 name, a method for each sentence. */
public final class SheetsEdgeTest {
    private static final int L = Bench.L;
    private static final int MIN = Bench.MIN;
    private static final int MAX = Bench.MAX;
    private static final long BEYOND = Bench.BEYOND;
    private static final long MISSING = Bench.MISSING;
    private static final Due due = new Due("SheetsEdgeTest");

    public static void main(String[] args) {
        sheetOfNNumbers();
        sheetOfNoBits();
        sheetBeyond();
        sheetSize();
        sheetTooLong();
        writeLowestBits();
        writeBeyondSheet();
        writeMissing();
        writeBeyondNumber();
        copySome();
        copyToItself();
        copyBeyondSheet();
        copyMissing();
        copyKind();
        copyBeyondNumbers();
        layLost();
        layLengths();
        layBeyond();
        layMissing();
        due.end();
    }

    private static Bench fresh() {
        return new Bench(due);
    }

    private static void refused(long finding, String call, Object... args) {
        Bench.refused(due, finding, call, args);
    }

    private static void sheetOfNNumbers() {
        due.part("Promise 8: A sheet has n numbers, all 0, of 8, 16 or 32 bits: n");
        for (int bits : new int[] {8, 16, 32}) {
            for (int s = 0; s < 4; s++) {
                Bench x = fresh();
                x.due(0, "sheet", s, bits, 0).due(0, "lay", 0, s).isRow(0).due(BEYOND, "write", s, 0, 0);
                x.due(1, "sheet", s, bits, 1).due(0, "write", s, 0, 7).due(BEYOND, "write", s, 1, 0);
                x.due(120, "sheet", s, bits, 120).due(0, "write", s, 119, 7).due(120, "lay", 0, s);
                x.due(0, "sample", 0, 0).due(7, "sample", 0, 119);
                x.due(2, "sheet", s, bits, 2).due(2, "lay", 0, s).isRow(0, 0, 0);
            }
        }
    }

    private static void sheetOfNoBits() {
        due.part("Promise 8: bits 0: it is MISSING: n (0)");
        Bench x = fresh().sheet(0, 8, 5).sheet(1, 8, 6);
        x.due(0, "sheet", 0, 0, 0).due(MISSING, "lay", 0, 0).due(1, "lay", 0, 1);
        x.due(0, "sheet", 0, 0, 0).due(0, "sheet", 1, 0, 120).due(MISSING, "write", 1, 0, 1);
        x.due(1, "sheet", 1, 8, 1).due(1, "lay", 0, 1).isRow(0, 0);
    }

    private static void sheetBeyond() {
        due.part("Promise 8: BEYOND: no such sheet, or bits");
        for (int s : new int[] {-1, 4, MIN, MAX}) {
            refused(BEYOND, "sheet", s, 8, 1);
            refused(BEYOND, "sheet", s, 0, 0);
        }
        for (int bits : new int[] {-1, 1, 7, 9, 15, 17, 24, 31, 33, 64, -8, -32, MIN, MAX}) {
            refused(BEYOND, "sheet", 0, bits, 1);
        }
    }

    private static void sheetSize() {
        due.part("Promise 8: SIZE: n is below 0");
        refused(Bench.SIZE, "sheet", 0, 8, -1);
        refused(Bench.SIZE, "sheet", 0, 16, MIN);
        refused(Bench.SIZE, "sheet", 3, 32, -1);
        refused(Bench.SIZE, "sheet", 0, 0, -1);
    }

    private static void sheetTooLong() {
        due.part("Promise 8: BEYOND: n is above 120");
        refused(BEYOND, "sheet", 0, 8, 121);
        refused(BEYOND, "sheet", 1, 16, MAX);
        refused(BEYOND, "sheet", 3, 32, 121);
        refused(BEYOND, "sheet", 0, 0, 121);
    }

    private static void writeLowestBits() {
        due.part("Promise 9: Number i of a sheet becomes v (its lowest bits): 0");
        Bench x = fresh().sheet(0, 8, 127, 128, 129, 255, 256, 257, -127, -128, -129, 65535 + 128, MAX, MIN);
        x.due(10, "lay", 0, 0).isRow(0, 127, L, -127, -1, 0, 1, -127, L, 127, 127, -1, 0);
        x.sheet(0, 16, 128, 10000, 32767, 32768, 65535, 65536, 65536 + 10000, -32768, -32769, MAX, MIN, 55536);
        x.due(8, "lay", 0, 0).isRow(0, 128, 10000, L, L, -1, 0, 10000, L, L, -1, 0, -10000);
        x.sheet(0, 32, 65536, -10000, 10000, MAX, MIN);
        x.due(2, "lay", 0, 0).isRow(0, L, -10000, 10000, L, L);
        x.due(0, "write", 0, 4, -1).due(3, "lay", 0, 0).isRow(0, L, -10000, 10000, L, -1);
    }

    private static void writeBeyondSheet() {
        due.part("Promise 9: BEYOND: no such sheet");
        for (int s : new int[] {-1, 4, MIN, MAX}) {
            refused(BEYOND, "write", s, 0, 1);
        }
    }

    private static void writeMissing() {
        due.part("Promise 9: MISSING");
        refused(MISSING, "write", 3, 0, 1);
        refused(MISSING, "write", 3, MAX, 1);
        fresh().sheet(2, 32, 1).due(0, "sheet", 2, 0, 0).due(MISSING, "write", 2, 0, 1);
    }

    private static void writeBeyondNumber() {
        due.part("Promise 9: BEYOND: no such number");
        for (int i : new int[] {-1, 3, 119, 120, MIN, MAX}) {
            refused(BEYOND, "write", 0, i, 1);
        }
        fresh().does("sheet", 0, 8, 120).due(0, "write", 0, 119, 1).due(BEYOND, "write", 0, 120, 1);
    }

    private static void copySome() {
        due.part("Promise 10: n numbers of a sheet from one on come to another one from one on: n");
        Bench x = fresh().sheet(0, 16, 1, 2, 3).sheet(1, 16, 7, 8, 9, 10);
        x.due(0, "copy", 0, 0, 1, 0, 0).due(0, "copy", 0, 3, 1, 4, 0).due(4, "lay", 0, 1).isRow(0, 7, 8, 9, 10);
        x.due(3, "copy", 0, 0, 1, 1, 3).due(4, "lay", 0, 1).isRow(0, 7, 1, 2, 3);
        x.due(1, "copy", 1, 3, 0, 0, 1).due(3, "lay", 0, 0).isRow(0, 3, 2, 3);
        Bench full = fresh().does("sheet", 0, 32, 120).does("sheet", 3, 32, 120).does("write", 0, 119, 5);
        full.due(120, "copy", 0, 0, 3, 0, 120).due(120, "lay", 0, 3).due(5, "sample", 0, 119);
        Bench none = fresh().does("sheet", 0, 8, 0).does("sheet", 1, 8, 0);
        none.due(0, "copy", 0, 0, 1, 0, 0).due(BEYOND, "copy", 0, 0, 1, 0, 1);
    }

    private static void copyToItself() {
        due.part("Promise 10, a sheet to itself: as if all numbers were read first");
        Bench x = fresh().sheet(0, 8, 1, 2, 3, 4);
        x.due(4, "copy", 0, 0, 0, 0, 4).due(4, "lay", 0, 0).isRow(0, 1, 2, 3, 4);
        x.due(3, "copy", 0, 0, 0, 1, 3).due(4, "lay", 0, 0).isRow(0, 1, 1, 2, 3);
        x.due(3, "copy", 0, 1, 0, 0, 3).due(4, "lay", 0, 0).isRow(0, 1, 2, 3, 3);
    }

    private static void copyBeyondSheet() {
        due.part("Promise 10: BEYOND: no such sheet (either)");
        for (int s : new int[] {-1, 4, MIN, MAX}) {
            refused(BEYOND, "copy", s, 0, 0, 0, 1);
            refused(BEYOND, "copy", 0, 0, s, 0, 1);
        }
    }

    private static void copyMissing() {
        due.part("Promise 10: MISSING: one is");
        refused(MISSING, "copy", 3, 0, 0, 0, 1);
        refused(MISSING, "copy", 0, 0, 3, 0, 1);
        refused(MISSING, "copy", 3, 0, 3, 0, 0);
    }

    private static void copyKind() {
        due.part("Promise 10: KIND: they are not of as many bits");
        refused(Bench.KIND, "copy", 0, 0, 2, 0, 1);
        refused(Bench.KIND, "copy", 2, 0, 0, 0, 0);
        Bench x = fresh().sheet(0, 8, 1).sheet(1, 16, 1).sheet(2, 32, 1);
        x.due(Bench.KIND, "copy", 0, 0, 1, 0, 1).due(Bench.KIND, "copy", 1, 0, 2, 0, 1).due(Bench.KIND, "copy", 2, 0, 0, 0, 1);
        x.due(1, "sheet", 1, 8, 1).due(1, "copy", 0, 0, 1, 0, 1);
    }

    private static void copyBeyondNumbers() {
        due.part("Promise 10: BEYOND: one has not so many, or from, to or n is below 0");
        // Sheet 0 of a busy bench has 3 numbers, sheet 1 has 2.
        refused(BEYOND, "copy", 0, 0, 1, 0, 3);
        refused(BEYOND, "copy", 1, 0, 0, 0, 3);
        refused(BEYOND, "copy", 0, 2, 1, 0, 2);
        refused(BEYOND, "copy", 0, 3, 1, 0, 1);
        refused(BEYOND, "copy", 0, 0, 1, 1, 2);
        refused(BEYOND, "copy", 0, 0, 1, 2, 1);
        refused(BEYOND, "copy", 0, -1, 1, 0, 1);
        refused(BEYOND, "copy", 0, 0, 1, -1, 1);
        refused(BEYOND, "copy", 0, 1, 1, 1, -1);
        refused(BEYOND, "copy", 0, 4, 1, 0, 0);
        refused(BEYOND, "copy", 0, 0, 1, 3, 0);
        refused(BEYOND, "copy", 0, -1, 1, 0, 0);
        refused(BEYOND, "copy", 0, 0, 1, -1, 0);
        refused(BEYOND, "copy", 0, MAX, 1, 0, 1);
        refused(BEYOND, "copy", 0, 0, 1, MAX, 1);
        refused(BEYOND, "copy", 0, 1, 1, 1, MAX);
        refused(BEYOND, "copy", 0, MAX, 1, MAX, MAX);
        refused(BEYOND, "copy", 0, MIN, 1, 0, MAX);
        refused(BEYOND, "copy", 0, 0, 1, 0, MIN);
    }

    private static void layLost() {
        due.part("Promise 11: one that is not -10000 to 10000 is LOST (of 8 bits -128 too)");
        Bench x = fresh().sheet(0, 8, -128, -127, 127).sheet(1, 16, -128, 10000, 10001, -10000, -10001);
        x.sheet(2, 32, -128, 10000, 10001, -10000, -10001, -100007);
        x.due(2, "lay", 0, 0).isRow(0, L, -127, 127).due(1, "about", 0, 1);
        x.due(3, "lay", 0, 1).isRow(0, -128, 10000, L, -10000, L).due(2, "about", 0, 1);
        x.due(3, "lay", 0, 2).isRow(0, -128, 10000, L, -10000, L, L).due(3, "about", 0, 1);
        x.sheet(3, 8, -128, -128).due(0, "lay", 3, 3).isRow(3, L, L);
    }

    private static void layLengths() {
        due.part("Promise 11: A pass becomes what a sheet has: how many were not LOST");
        Bench x = Bench.with(due, 1, 2, 3);
        x.does("sheet", 0, 8, 0).does("sheet", 1, 8, 120);
        x.due(120, "lay", 0, 1).due(120, "about", 0, 0).due(BEYOND, "sample", 0, 120);
        x.due(0, "lay", 0, 0).isRow(0);
        // The pass has the numbers as they were: what is written later is the sheet's alone.
        x.sheet(2, 8, 4).due(1, "lay", 0, 2).does("write", 2, 0, 5).isRow(0, 4).due(0, "sheet", 2, 0, 0).isRow(0, 4);
    }

    private static void layBeyond() {
        due.part("Promise 11: BEYOND: no such pass, or sheet");
        for (int k : new int[] {-1, 4, MIN, MAX}) {
            refused(BEYOND, "lay", k, 0);
            refused(BEYOND, "lay", 0, k);
            refused(BEYOND, "lay", k, k);
        }
    }

    private static void layMissing() {
        due.part("Promise 11: MISSING");
        refused(MISSING, "lay", 0, 3);
        refused(MISSING, "lay", 2, 3);
        refused(BEYOND, "lay", 4, 3);
    }
}
