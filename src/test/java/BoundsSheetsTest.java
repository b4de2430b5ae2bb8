/**
 * Promises 35 to 39: each sentence that names a bound has a test of its own. A cell is seen by the act that it is
 * read as: (0, v) is row v. Every private method here is run.
 */
public final class BoundsSheetsTest {
    private static final int BAD = -1, NONE = -4;
    private static final int NULL = 1, INDEX = 2, CAST = 3;
    private static final int LEAST = Integer.MIN_VALUE, MOST = Integer.MAX_VALUE;
    private static final int[] FAR = {LEAST, MOST, -9, 41, 64, 256, -256, 1 << 16, 1 << 28, 1 << 30};
    private static final Due DUE = new Due("BoundsSheetsTest");

    private BoundsSheetsTest() {
    }

    private static void is(String call, long got, long want) {
        DUE.is(call, got, want);
    }

    /** Sheet 0 of a lane with these cells. */
    private static RowsColumns sheet(int lane, int... cells) {
        RowsColumns x = new RowsColumns();
        x.sheet(0, lane, cells.length);
        for (int i = 0; i < cells.length; i++) {
            x.lay(0, i, cells[i]);
        }
        return x;
    }

    private static void read(String call, RowsColumns x, int got, int want, int fault) {
        is(call, got, want);
        is("torn() behind " + call, x.torn(), fault);
    }

    // ---- sheet

    private static void sheetsAre0To3() {
        RowsColumns x = new RowsColumns();
        for (int k = 0; k < 4; k++) {
            is("" + k, x.sheet(k, 0, 1), 1);
        }
        is("4", x.sheet(4, 0, 1), BAD);
        is("-1", x.sheet(-1, 0, 1), BAD);
        for (int k : FAR) {
            is("" + k, x.sheet(k, 0, 1), BAD);
        }
    }

    private static void lanesAre0To2() {
        RowsColumns x = new RowsColumns();
        for (int lane = 0; lane < 3; lane++) {
            is("" + lane, x.sheet(0, lane, 1), 1);
        }
        is("3", x.sheet(0, 3, 1), BAD);
        is("-1", x.sheet(0, -1, 1), BAD);
        for (int lane : FAR) {
            is("" + lane, x.sheet(0, lane, 1), BAD);
        }
    }

    private static void aSheetHas0To40Cells() {
        RowsColumns x = new RowsColumns();
        for (int n = 0; n <= 40; n++) {
            is("" + n, x.sheet(0, 2, n), 1);
            is("cells of " + n, x.count(5), n);
            is("behind the last of " + n, x.lay(0, n, 0), -12);
            is("the last of " + n, x.lay(0, n - 1, 0), n == 0 ? -12 : 1);
        }
    }

    private static void above40CellsIsBad() {
        RowsColumns x = new RowsColumns();
        is("41", x.sheet(0, 0, 41), BAD);
        is("most", x.sheet(0, 0, MOST), BAD);
        is("it is nothing still", x.count(5), NONE);
    }

    private static void below0CellsIsItsSize() {
        RowsColumns x = new RowsColumns();
        is("-1", x.sheet(0, 0, -1), -14);
        is("least", x.sheet(0, 0, LEAST), -14);
        is("it is nothing still", x.count(5), NONE);
        is("torn() is of read alone", x.torn(), 0);
    }

    private static void below0CellsIsBadFirst() {
        RowsColumns x = new RowsColumns();
        is("no such sheet", x.sheet(4, 0, -1), BAD);
        is("no such lane", x.sheet(0, 3, -1), BAD);
    }

    private static void aRefusedSheetStays() {
        RowsColumns x = sheet(1, 0, 3);
        x.sheet(0, 1, 41);
        x.sheet(0, 1, -1);
        x.sheet(0, 3, 5);
        is("cells", x.count(5), 2);
        is("read", x.read(0, 1, 0, 1), 1);
        is("its row", x.cloth(0), 15L << 24);
    }

    private static void aNewRowIsAll0() {
        RowsColumns x = new RowsColumns();
        x.sheet(2, 2, 40);
        for (int i = 0; i < 40; i++) {
            x.lay(2, i, 9);
        }
        is("no act", x.read(2, 2, 0, 20), -20);
        x.sheet(2, 2, 40);
        is("row 0, twenty times", x.read(2, 2, 0, 20), 20);
        is("it is light", x.cloth(0), 0);
        x.sheet(2, 2, 0);
        x.sheet(2, 2, 40);
        is("row 0, nineteen times", x.read(2, 2, 2, 19), 19);
        is("it is dark", x.cloth(0), 15);
    }

    private static void sheetsAreEachTheirOwn() {
        RowsColumns x = new RowsColumns();
        for (int k = 0; k < 4; k++) {
            x.sheet(k, k % 3, 2);
            x.lay(k, 1, k);
        }
        for (int k = 0; k < 4; k++) {
            is("read of " + k, x.read(k, k % 3, 0, 1), 1);
            is("its row", x.cloth(0), 15L << 8 * k);
            x.act(0, k);
        }
    }

    // ---- lay

    private static void layOfASheetThereIsNot() {
        RowsColumns x = new RowsColumns();
        is("4", x.lay(4, 0, 0), BAD);
        is("-1", x.lay(-1, 0, 0), BAD);
        for (int k : FAR) {
            is("" + k, x.lay(k, -1, 0), BAD);
        }
    }

    private static void layOnNothing() {
        RowsColumns x = new RowsColumns();
        is("0", x.lay(0, 0, 0), -11);
        is("NULL is ahead of INDEX", x.lay(0, -1, 0), -11);
        x.sheet(1, 0, 5);
        is("the others are nothing", x.lay(0, 0, 0), -11);
    }

    private static void layOnASheetOf0Cells() {
        RowsColumns x = new RowsColumns();
        x.sheet(0, 0, 0);
        is("0", x.lay(0, 0, 0), -12);
        is("-1", x.lay(0, -1, 0), -12);
    }

    private static void layFromTheFirstToTheLast() {
        RowsColumns x = new RowsColumns();
        x.sheet(3, 1, 40);
        is("0", x.lay(3, 0, 1), 1);
        is("39", x.lay(3, 39, 1), 1);
        is("40", x.lay(3, 40, 1), -12);
        is("-1", x.lay(3, -1, 1), -12);
        for (int i : FAR) {
            is("" + i, x.lay(3, i, 1), -12);
        }
    }

    private static void layBehindAShorterSheet() {
        RowsColumns x = new RowsColumns();
        x.sheet(0, 0, 40);
        x.sheet(0, 0, 3);
        is("2", x.lay(0, 2, 1), 1);
        is("3", x.lay(0, 3, 1), -12);
    }

    /** The row that a cell of a lane tells, -1: it tells none of the eight. */
    private static void lowest(int lane, int v, int row) {
        RowsColumns x = Due.cloth(8, 8, 0);
        x.sheet(0, lane, 2);
        is("lay " + v, x.lay(0, 1, v), 1);
        is("read of lane " + lane + " and " + v, x.read(0, lane, 0, 1), row < 0 ? -20 : 1);
        is("row of lane " + lane + " and " + v, x.cloth(0), row < 0 ? 0 : 0xFFL << 8 * row);
    }

    private static void aByteHasItsLowest8Bits() {
        lowest(0, 7, 7);
        lowest(0, 256 + 7, 7);
        lowest(0, LEAST + 5, 5);
        lowest(0, -256, 0);
        lowest(0, -249, 7);
        lowest(0, 127, -1);
        lowest(0, 128, -1);
        lowest(0, 255, -1);
        lowest(0, 65536 + 256 + 3, 3);
    }

    private static void aShortHasItsLowest16Bits() {
        lowest(1, 7, 7);
        lowest(1, 256, -1);
        lowest(1, 65536 + 7, 7);
        lowest(1, LEAST + 5, 5);
        lowest(1, -65536, 0);
        lowest(1, -65529, 7);
        lowest(1, 32767, -1);
        lowest(1, 32768, -1);
        lowest(1, 65535, -1);
    }

    private static void anIntHasAllBits() {
        lowest(2, 7, 7);
        lowest(2, 256, -1);
        lowest(2, 65536, -1);
        lowest(2, 65536 + 7, -1);
        lowest(2, LEAST, -1);
        lowest(2, LEAST + 5, -1);
        lowest(2, MOST, -1);
        lowest(2, -1, -1);
    }

    private static void aKindHasItsLowestBitsToo() {
        RowsColumns x = sheet(0, 256 + 1, 512 + 2);
        is("read", x.read(0, 0, 0, 1), 1);
        is("column 2", x.cloth(0), 0x04040404L);
    }

    private static void laidTwiceTheLatterStands() {
        RowsColumns x = sheet(0, 0, 1);
        x.lay(0, 1, 2);
        x.read(0, 0, 0, 1);
        is("row 2", x.cloth(0), 15L << 16);
    }

    // ---- read

    private static void readOfASheetThereIsNot() {
        RowsColumns x = new RowsColumns();
        is("4", x.read(4, 0, 0, 0), BAD);
        is("-1", x.read(-1, 0, 0, 0), BAD);
        for (int k : FAR) {
            is("" + k, x.read(k, 0, 0, 1), BAD);
        }
    }

    private static void readAsALaneThereIsNot() {
        RowsColumns x = sheet(2, 0, 0);
        is("3", x.read(0, 3, 0, 0), BAD);
        is("-1", x.read(0, -1, 0, 1), BAD);
        for (int lane : FAR) {
            is("" + lane, x.read(0, lane, 0, 1), BAD);
        }
    }

    private static void read0To20Acts() {
        RowsColumns x = sheet(0, new int[40]);
        is("0", x.read(0, 0, 0, 0), 0);
        is("20", x.read(0, 0, 0, 20), 20);
        is("21", x.read(0, 0, 0, 21), BAD);
        is("-1", x.read(0, 0, 0, -1), BAD);
        is("-2", x.read(0, 0, 0, -2), BAD);
        for (int n : FAR) {
            is("" + n, x.read(0, 0, 0, n), BAD);
        }
        is("light", x.cloth(0), 0);
    }

    private static void readNothing() {
        RowsColumns x = new RowsColumns();
        for (int lane = 0; lane < 3; lane++) {
            read("lane " + lane, x, x.read(0, lane, 0, 1), 0, NULL);
        }
    }

    private static void readNothingAheadOfAnyCell() {
        RowsColumns x = new RowsColumns();
        read("from -1", x, x.read(0, 0, -1, 1), 0, NULL);
        read("from 40", x, x.read(0, 0, 40, 20), 0, NULL);
    }

    private static void readAsAnotherLane() {
        for (int lane = 0; lane < 3; lane++) {
            for (int as = 0; as < 3; as++) {
                RowsColumns x = sheet(lane, 0, 1);
                boolean same = lane == as;
                read("lane " + lane + " as " + as, x, x.read(0, as, 0, 1), same ? 1 : 0, same ? 0 : CAST);
                is("cloth of " + lane + " as " + as, x.cloth(0), same ? 15L << 8 : 0);
            }
        }
    }

    private static void readAsAnotherLaneAheadOfAnyCell() {
        RowsColumns x = sheet(1);
        read("from -1", x, x.read(0, 0, -1, 1), 0, CAST);
        read("of 0 cells", x, x.read(0, 2, 0, 1), 0, CAST);
        x = sheet(1, 9, 9);
        read("no act", x, x.read(0, 0, 0, 1), 0, CAST);
    }

    private static void read0ActsWhateverTheSheetIs() {
        RowsColumns x = sheet(1, 9, 9);
        x.read(0, 1, 2, 1);
        read("nothing", x, x.read(1, 0, 0, 0), 0, 0);
        x.read(0, 1, 2, 1);
        read("another lane", x, x.read(0, 0, 0, 0), 0, 0);
        x.read(0, 1, 2, 1);
        read("no cell", x, x.read(0, 1, 99, 0), 0, 0);
        x.read(0, 1, 2, 1);
        read("a cell below 0", x, x.read(0, 1, -1, 0), 0, 0);
        x.read(0, 1, 2, 1);
        read("no act", x, x.read(0, 1, 0, 0), 0, 0);
        is("cloth", x.cloth(0), 0);
    }

    private static void readOf0Cells() {
        RowsColumns x = sheet(0);
        read("one act", x, x.read(0, 0, 0, 1), 0, INDEX);
    }

    private static void readFromACellBelow0() {
        RowsColumns x = sheet(0, 0, 1, 0, 2);
        int[] below = {-1, -2, -3, LEAST, LEAST + 1};
        for (int f : below) {
            read("from " + f, x, x.read(0, 0, f, 20), 0, INDEX);
        }
        is("cloth", x.cloth(0), 0);
    }

    private static void readFromACellBehindAll() {
        RowsColumns x = sheet(0, 0, 1, 0, 2);
        int[] behind = {4, 5, 40, MOST, MOST - 1};
        for (int f : behind) {
            read("from " + f, x, x.read(0, 0, f, 20), 0, INDEX);
        }
        is("cloth", x.cloth(0), 0);
    }

    private static void readAnActThatIsHalfThere() {
        RowsColumns x = sheet(0, 0, 1, 0);
        read("from 2", x, x.read(0, 0, 2, 1), 0, INDEX);
        is("cloth", x.cloth(0), 0);
        read("from 0", x, x.read(0, 0, 0, 2), 1, INDEX);
        is("that which was whole is done", x.cloth(0), 15L << 8);
    }

    private static void halfABadActIsNotBad() {
        RowsColumns x = sheet(0, 0, 1, 9);
        read("from 0", x, x.read(0, 0, 0, 2), 1, INDEX);
        is("that which was whole is done", x.cloth(0), 15L << 8);
    }

    private static void readJustAllThatIsThere() {
        RowsColumns x = sheet(0, 0, 1, 1, 1, 2, 2);
        read("three", x, x.read(0, 0, 0, 3), 3, 0);
        is("row 1, column 1, slant 2", x.cloth(0), Due.set("lddl", "dddd", "ddll", "ldll"));
        read("four", x, x.read(0, 0, 0, 4), 3, INDEX);
        is("done once more", x.cloth(0), 0);
    }

    private static void readFromAnyCell() {
        RowsColumns x = sheet(0, 9, 0, 3, 9);
        read("from 1", x, x.read(0, 0, 1, 1), 1, 0);
        is("row 3", x.cloth(0), 15L << 24);
        read("from 0", x, x.read(0, 0, 0, 1), -20, 0);
        read("from 2", x, x.read(0, 0, 2, 1), -20, 0);
    }

    private static void readTheLastCellsOf40() {
        RowsColumns x = new RowsColumns();
        x.sheet(3, 2, 40);
        x.lay(3, 38, 1);
        x.lay(3, 39, 3);
        read("the last act", x, x.read(3, 2, 38, 1), 1, 0);
        is("column 3", x.cloth(0), 0x08080808L);
        read("half of the last", x, x.read(3, 2, 39, 1), 0, INDEX);
        read("all, from 1: 18 times row 0, then row 1", x, x.read(3, 2, 1, 20), 19, INDEX);
        is("row 1 and column 3", x.cloth(0), 0x08080808L ^ 15L << 8);
    }

    private static void aBadActIsToldByItsNumber() {
        for (int i = 0; i < 20; i++) {
            RowsColumns x = sheet(2, new int[40]);
            x.lay(0, 2 * i, 3);
            is("act " + i, x.read(0, 2, 0, 20), -20 - i);
            is("cloth", x.cloth(0), 0);
            is("those ahead alone", x.read(0, 2, 0, i), i);
        }
    }

    private static void theFirstBadActIsTold() {
        RowsColumns x = sheet(0, 0, 0, 0, 4, 3, 0);
        is("act 1", x.read(0, 0, 0, 3), -21);
        is("from 2 it is act 0", x.read(0, 0, 2, 1), -20);
    }

    private static void aBadActThenNoneIsDone() {
        RowsColumns x = sheet(0, 0, 0, 1, 0, 2, 7);
        is("the last one", x.read(0, 0, 0, 3), -22);
        is("cloth", x.cloth(0), 0);
    }

    private static void aBadActAheadOfAFault() {
        RowsColumns x = sheet(0, 0, 0, 0, 4);
        read("act 1", x, x.read(0, 0, 0, 3), -21, 0);
        is("none is done", x.cloth(0), 0);
    }

    private static void actsAreOfTheClothThatThereIs() {
        RowsColumns x = sheet(0, 0, 3, 1, 3, 2, 6);
        is("4 by 4", x.read(0, 0, 0, 3), 3);
        Due.tell(x, "cloth llll llll llll;");
        is("no row 3", x.read(0, 0, 0, 3), -20);
        is("column 3", x.read(0, 0, 2, 1), 1);
        is("no slant 6", x.read(0, 0, 4, 1), -20);
        Due.tell(x, "cloth lll lll lll lll;");
        is("row 3", x.read(0, 0, 0, 1), 1);
        is("no column 3", x.read(0, 0, 2, 1), -20);
    }

    private static void kindsAndNumbersBelow0AreBad() {
        is("kind -1", sheet(0, -1, 0).read(0, 0, 0, 1), -20);
        is("row -1", sheet(1, 0, -1).read(0, 1, 0, 1), -20);
        is("column -1", sheet(2, 1, -1).read(0, 2, 0, 1), -20);
        is("slant -1", sheet(2, 2, -1).read(0, 2, 0, 1), -20);
        is("kind 3", sheet(0, 3, 0).read(0, 0, 0, 1), -20);
    }

    private static void theLastLinesAreRead() {
        RowsColumns x = sheet(0, 0, 7, 1, 7, 2, 14);
        Due.tell(x, "cloth" + " llllllll".repeat(8) + ";");
        is("all", x.read(0, 0, 0, 3), 3);
        is("15 squares", x.count(0), 15);
        x.lay(0, 5, 15);
        is("no slant 15", x.read(0, 0, 0, 3), -22);
    }

    private static void readLeavesTheSheet() {
        RowsColumns x = sheet(0, 0, 1);
        is("once", x.read(0, 0, 0, 1), 1);
        is("twice", x.read(0, 0, 0, 1), 1);
        is("cloth", x.cloth(0), 0);
        is("cells", x.count(5), 2);
    }

    // ---- torn

    private static void tornIsOfTheLatestRead() {
        RowsColumns x = sheet(0, 0, 1);
        x.read(1, 0, 0, 1);
        is("NULL", x.torn(), NULL);
        x.read(0, 1, 0, 1);
        is("CAST", x.torn(), CAST);
        x.read(0, 0, 0, 2);
        is("INDEX", x.torn(), INDEX);
        is("asked once more", x.torn(), INDEX);
        x.read(0, 0, 0, 1);
        is("none", x.torn(), 0);
    }

    private static void aBadReadLeavesTorn() {
        RowsColumns x = sheet(0, 0, 1, 9, 9);
        x.read(1, 0, 0, 1);
        x.read(4, 0, 0, 1);
        is("no such sheet", x.torn(), NULL);
        x.read(0, 3, 0, 1);
        is("no such lane", x.torn(), NULL);
        x.read(0, 0, 0, 21);
        is("too many", x.torn(), NULL);
        x.read(0, 0, 0, -1);
        is("below 0", x.torn(), NULL);
        x.read(0, 0, 0, 2);
        is("a BAD act", x.torn(), NULL);
        x.read(0, 0, 0, 3);
        is("a BAD act ahead of a fault", x.torn(), NULL);
    }

    private static void otherCallsLeaveTorn() {
        RowsColumns x = sheet(0, 0, 1);
        x.read(0, 0, 1, 1);
        x.lay(1, 0, 0);
        is("lay on nothing", x.torn(), INDEX);
        x.sheet(0, 0, -1);
        is("a sheet below 0", x.torn(), INDEX);
        x.sheet(0, 0, 5);
        is("a new sheet", x.torn(), INDEX);
        Due.tell(x, "cloth d;");
        is("a text", x.torn(), INDEX);
    }

    // ---- count

    private static void countIsOf0To5() {
        RowsColumns x = new RowsColumns();
        int[] due = {0, 16, NONE, 0, 0, NONE};
        for (int what = 0; what < due.length; what++) {
            is("" + what, x.count(what), due[what]);
        }
        is("6", x.count(6), BAD);
        is("-1", x.count(-1), BAD);
        for (int what : FAR) {
            is("" + what, x.count(what), BAD);
        }
    }

    private static void countTheLeastAndTheGreatestCloth() {
        RowsColumns x = Due.wished(1, 1, 0, 1);
        is("dark of the least", x.count(0), 0);
        is("squares of the least", x.count(1), 1);
        is("unlike of the least", x.count(2), 1);
        x = Due.wished(8, 8, -1, 0);
        is("dark of the greatest", x.count(0), 64);
        is("squares of the greatest", x.count(1), 64);
        is("unlike of the greatest", x.count(2), 64);
    }

    private static void countUnlikeWithoutAPattern() {
        RowsColumns x = Due.wished(2, 2, 1, 1);
        is("it is the same", x.count(2), 0);
        x.cut(0, 2, 0, 2);
        is("it is gone", x.count(2), NONE);
    }

    private static void countImages() {
        RowsColumns x = new RowsColumns();
        x.keep(1);
        is("one", x.count(3), 1);
        x.keep(1);
        is("the same once more", x.count(3), 1);
        x.keep(0);
        is("two", x.count(3), 2);
        x.text();
        is("gone", x.count(3), 0);
    }

    private static void countAFullTape() {
        RowsColumns x = new RowsColumns();
        for (int i = 0; i < 41; i++) {
            x.feed(0);
        }
        is("bytes", x.count(4), 320);
        x.end(1);
        is("one", x.count(4), 1);
    }

    private static void countCellsOfSheet0Alone() {
        RowsColumns x = new RowsColumns();
        x.sheet(1, 0, 3);
        x.sheet(2, 0, 3);
        x.sheet(3, 0, 3);
        is("nothing", x.count(5), NONE);
        x.sheet(0, 0, 0);
        is("none", x.count(5), 0);
        x.sheet(0, 0, 40);
        is("forty", x.count(5), 40);
    }

    public static void main(String[] args) {
        DUE.every(BoundsSheetsTest.class);
        DUE.close();
    }
}
