/** Promises 35 to 39: sheets, acts read from them, what is counted. */
public final class SheetsTest {
    private static final int BAD = -1, NONE = -4;
    private static final int NULL = 1, INDEX = 2, CAST = 3;
    private static final int LEAST = Integer.MIN_VALUE, MOST = Integer.MAX_VALUE;
    private static final Due DUE = new Due("SheetsTest");

    private static void is(String call, long got, long want) {
        DUE.is(call, got, want);
    }

    private static void promise35() {
        RowsColumns x = new RowsColumns();
        is("35 sheet", x.sheet(0, 0, 40), 1);
        is("35 cells", x.count(5), 40);
        is("35 above", x.sheet(0, 0, 41), BAD);
        is("35 most", x.sheet(0, 0, MOST), BAD);
        is("35 below 0", x.sheet(0, 0, -1), -14);
        is("35 least", x.sheet(0, 0, LEAST), -14);
        is("35 what is refused changes nothing", x.count(5), 40);
        is("35 no such sheet", x.sheet(4, 0, 1), BAD);
        is("35 no such sheet", x.sheet(-1, 0, 1), BAD);
        is("35 no such sheet, below 0", x.sheet(4, 0, -1), BAD);
        is("35 no such lane", x.sheet(0, 3, 1), BAD);
        is("35 no such lane", x.sheet(0, -1, 1), BAD);
        is("35 no such lane, below 0", x.sheet(0, 3, -1), BAD);
        is("35 none", x.sheet(0, 2, 0), 1);
        is("35 none", x.count(5), 0);
        is("35 none has no first", x.lay(0, 0, 0), -12);
        is("35 the last sheet and lane", x.sheet(3, 2, 1), 1);
        is("35 below 0 of nothing", x.sheet(1, 1, -1), -14);
        is("35 is still nothing", x.lay(1, 0, 0), -11);
        x.sheet(2, 0, 2);
        x.lay(2, 0, 1);
        x.lay(2, 1, 1);
        x.sheet(2, 0, 2);
        x.act(0, 0);
        is("35 a new row is 0 again", x.read(2, 0, 0, 1), 1);
        is("35 a new row is 0 again", x.cloth(0), 0);
        x.sheet(2, 0, 2);
        x.lay(2, 1, 3);
        x.sheet(2, 0, 0);
        x.sheet(2, 0, 4);
        is("35 so behind a shorter one", x.read(2, 0, 0, 2), 2);
        is("35 so behind a shorter one", x.cloth(0), 0);
    }

    private static void promise36() {
        RowsColumns x = new RowsColumns();
        is("36 nothing", x.lay(1, 0, 1), -11);
        is("36 nothing, beside", x.lay(1, -1, 1), -11);
        x.sheet(1, 0, 3);
        is("36 first", x.lay(1, 0, 1), 1);
        is("36 last", x.lay(1, 2, 1), 1);
        is("36 above", x.lay(1, 3, 1), -12);
        is("36 below", x.lay(1, -1, 1), -12);
        is("36 least", x.lay(1, LEAST, 1), -12);
        is("36 most", x.lay(1, MOST, 1), -12);
        is("36 no such sheet", x.lay(4, 0, 1), BAD);
        is("36 no such sheet", x.lay(-1, 0, 1), BAD);
        is("36 the others are nothing", x.lay(0, 0, 1), -11);
    }

    /** A cell's value is seen by the act that it is: row v, if there is one. */
    private static void lowest(int lane, int v, int answer) {
        RowsColumns x = new RowsColumns();
        x.sheet(0, lane, 2);
        x.lay(0, 1, v);
        is("36 lane " + lane + " of " + v, x.read(0, lane, 0, 1), answer);
        is("36 lane " + lane + " of " + v, x.cloth(0), answer == 1 ? 15L << 8 * (v & 3) : 0);
    }

    private static void promise36lowest() {
        lowest(0, 3, 1);
        lowest(0, 256 + 2, 1);
        lowest(0, -256 + 1, 1);
        lowest(0, 255, -20);
        lowest(0, 128, -20);
        lowest(0, 4, -20);
        lowest(1, 3, 1);
        lowest(1, 256, -20);
        lowest(1, 65536 + 2, 1);
        lowest(1, -65536 + 3, 1);
        lowest(1, 65535, -20);
        lowest(2, 3, 1);
        lowest(2, 65536, -20);
        lowest(2, 256, -20);
        lowest(2, -1, -20);
        lowest(2, LEAST, -20);
    }

    private static RowsColumns sheets() {
        RowsColumns x = new RowsColumns();
        int[] acts = {0, 1, 1, 2, 2, 6, 0, 3, 9};
        x.sheet(0, 1, acts.length);
        for (int i = 0; i < acts.length; i++) {
            x.lay(0, i, acts[i]);
        }
        return x;
    }

    private static void read(int f, int n, int answer, int torn, String... rows) {
        RowsColumns x = sheets();
        is("37 read " + f + " " + n, x.read(0, 1, f, n), answer);
        is("38 torn " + f + " " + n, x.torn(), torn);
        is("37 cloth " + f + " " + n, x.cloth(0), Due.set(rows));
    }

    private static void promise37() {
        read(0, 0, 0, 0);
        read(0, 1, 1, 0, "llll", "dddd");
        read(0, 2, 2, 0, "lldl", "ddld", "lldl", "lldl");
        read(0, 3, 3, 0, "lldl", "ddld", "lldl", "lldd");
        read(2, 1, 1, 0, "lldl", "lldl", "lldl", "lldl");
        read(0, 4, 4, 0, "lldl", "ddld", "lldl", "ddll");
        read(0, 5, 4, INDEX, "lldl", "ddld", "lldl", "ddll");
        read(0, 20, 4, INDEX, "lldl", "ddld", "lldl", "ddll");
        read(6, 1, 1, 0, "llll", "llll", "llll", "dddd");
        read(6, 2, 1, INDEX, "llll", "llll", "llll", "dddd");
        read(8, 1, 0, INDEX);
        read(9, 1, 0, INDEX);
        read(-1, 1, 0, INDEX);
        read(-2, 20, 0, INDEX);
        read(LEAST, 20, 0, INDEX);
        read(MOST, 20, 0, INDEX);
        read(MOST - 1, 2, 0, INDEX);
        read(99, 0, 0, 0);
        read(7, 1, -20, 0);
        read(1, 1, 1, 0, "ldll", "ldll", "ldll", "ldll");
        read(1, 2, 2, 0, "lddl", "llll", "ddll", "ldll");
        read(1, 3, -22, 0);
        read(3, 3, -21, 0);
        read(3, 20, -21, 0);
    }

    private static void promise37refused() {
        RowsColumns x = sheets();
        is("37 no such sheet", x.read(4, 1, 0, 1), BAD);
        is("37 no such sheet", x.read(-1, 1, 0, 1), BAD);
        is("37 no such lane", x.read(0, 3, 0, 1), BAD);
        is("37 no such lane", x.read(0, -1, 0, 1), BAD);
        is("37 no such lane, none", x.read(0, 3, 0, 0), BAD);
        is("37 above", x.read(0, 1, 0, 21), BAD);
        is("37 below", x.read(0, 1, 0, -1), BAD);
        is("37 no such sheet, none", x.read(4, 1, 0, 0), BAD);
        is("37 nothing", x.read(1, 1, 0, 1), 0);
        is("38 nothing", x.torn(), NULL);
        is("37 nothing, no acts", x.read(1, 1, 0, 0), 0);
        is("38 nothing, no acts", x.torn(), 0);
        is("37 another lane", x.read(0, 0, 0, 1), 0);
        is("38 another lane", x.torn(), CAST);
        is("37 another lane, no acts", x.read(0, 2, 0, 0), 0);
        is("38 another lane, no acts", x.torn(), 0);
        is("37 another lane, beside", x.read(0, 2, -5, 3), 0);
        is("38 another lane, beside", x.torn(), CAST);
        is("37 nothing is changed", x.cloth(0), 0);
        x.sheet(3, 2, 40);
        is("37 twenty", x.read(3, 2, 0, 20), 20);
        is("37 twenty", x.cloth(0), 0);
        is("37 nineteen", x.read(3, 2, 1, 20), 19);
        is("37 nineteen", x.cloth(0), 15);
        x.sheet(2, 0, 0);
        is("37 no cells", x.read(2, 0, 0, 1), 0);
        is("38 no cells", x.torn(), INDEX);
    }

    private static void promise38() {
        RowsColumns x = sheets();
        is("38 at first", x.torn(), 0);
        x.read(0, 1, 8, 1);
        is("38 index", x.torn(), INDEX);
        is("38 BAD leaves it", x.read(0, 3, 0, 1) + x.torn(), BAD + INDEX);
        is("38 a BAD act leaves it", x.read(0, 1, 7, 1) + x.torn(), -20 + INDEX);
        is("38 a BAD act ahead of an index", x.read(0, 1, 3, 20) + x.torn(), -21 + INDEX);
        x.lay(0, 99, 0);
        x.lay(1, 0, 0);
        x.sheet(0, 1, -1);
        is("38 other calls leave it", x.torn(), INDEX);
        Due.tell(x, "");
        is("38 a text leaves it", x.torn(), INDEX);
        is("38 one without a fault", x.read(0, 1, 0, 1), 1);
        is("38 one without a fault", x.torn(), 0);
        x.read(3, 1, 0, 1);
        is("38 BAD leaves it", x.read(0, 1, 0, 21) + x.torn(), BAD + NULL);
    }

    private static void promise39() {
        RowsColumns x = Due.told("cloth dld lll; pattern ddl lld;");
        is("39 dark", x.count(0), 2);
        is("39 squares", x.count(1), 6);
        is("39 unlike", x.count(2), 3);
        is("39 no images", x.count(3), 0);
        is("39 tape", x.count(4), 0);
        is("39 nothing", x.count(5), NONE);
        is("39 above", x.count(6), BAD);
        is("39 below", x.count(-1), BAD);
        is("39 least", x.count(LEAST), BAD);
        x.keep(1);
        is("39 one image", x.count(3), 1);
        x.keep(0);
        is("39 two images", x.count(3), 2);
        x.feed(0);
        is("39 tape", x.count(4), 8);
        x.sheet(1, 0, 7);
        is("39 another sheet", x.count(5), NONE);
        x.sheet(0, 2, 7);
        is("39 cells", x.count(5), 7);
        is("39 no pattern", new RowsColumns().count(2), NONE);
        x.wish(0, 1, false);
        x.wish(0, 2, true);
        x.wish(1, 2, false);
        is("39 alike", x.count(2), 0);
    }

    public static void main(String[] args) {
        promise35();
        promise36();
        promise36lowest();
        promise37();
        promise37refused();
        promise38();
        promise39();
        DUE.close();
    }
}
