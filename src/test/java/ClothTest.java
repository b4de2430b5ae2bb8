/** Promises 8 to 14: the cloth, its squares, acts and days. */
public final class ClothTest {
    private static final int BAD = -1, STATE = -2;
    private static final int LEAST = Integer.MIN_VALUE, MOST = Integer.MAX_VALUE;
    private static final Due DUE = new Due("ClothTest");

    private static void is(String call, long got, long want) {
        DUE.is(call, got, want);
    }

    private static void promise8() {
        RowsColumns x = Due.told("cloth lld dll; pattern dll lld;");
        is("8 cloth", x.cloth(0), 4 + 256);
        is("8 pattern", x.cloth(1), 1 + 1024);
        is("8 above", x.cloth(2), 0);
        is("8 below", x.cloth(-1), 0);
        is("8 no pattern", Due.told("cloth d;").cloth(1), 0);
        x = new RowsColumns();
        Due.tell(x, "cloth l l l l l l l d;");
        is("8 row 7", x.cloth(0), 1L << 56);
        Due.tell(x, "cloth llllllll llllllll llllllll llllllll llllllll llllllll llllllll llllllld;");
        is("8 the last square", x.cloth(0), Long.MIN_VALUE);
    }

    private static void promise9() {
        RowsColumns x = Due.told("cloth lld dll;");
        is("9 dark", x.square(0, 2), 1);
        is("9 dark", x.square(1, 0), 1);
        is("9 light", x.square(1, 2), 0);
        is("9 light", x.square(0, 0), 0);
        int[][] wrong = {{2, 0}, {0, 3}, {-1, 0}, {0, -1}, {LEAST, 0}, {MOST, MOST}, {1, 8}};
        for (int[] w : wrong) {
            is("9 wrong", x.square(w[0], w[1]), BAD);
        }
    }

    private static void promise10() {
        RowsColumns x = Due.told("cloth lld dll; pattern lll lll;");
        is("10 light becomes dark", x.paint(1, 2, true), 0);
        is("10 dark stays dark", x.paint(1, 2, true), 1);
        is("10 dark becomes light", x.paint(0, 2, false), 1);
        is("10 light stays light", x.paint(0, 2, false), 0);
        is("10 the cloth", x.cloth(0), Due.set("lll", "dld"));
        is("10 the pattern is as it was", x.cloth(1), 0);
        int[][] wrong = {{2, 0}, {0, 3}, {-1, 0}, {0, -1}, {LEAST, 0}, {MOST, MOST}};
        for (int[] w : wrong) {
            is("10 wrong", x.paint(w[0], w[1], true), BAD);
        }
        is("10 what is refused changes nothing", x.cloth(0), Due.set("lll", "dld"));
    }

    private static void promise11() {
        RowsColumns x = new RowsColumns();
        is("11 no pattern", x.wish(0, 0, true), STATE);
        is("11 no square, no pattern", x.wish(4, 0, true), BAD);
        is("11 nothing is changed", x.cloth(1), 0);
        x = Due.told("cloth lld dll; pattern lll lld;");
        is("11 light becomes dark", x.wish(1, 0, true), 0);
        is("11 dark stays dark", x.wish(1, 2, true), 1);
        is("11 dark becomes light", x.wish(1, 2, false), 1);
        is("11 light stays light", x.wish(0, 0, false), 0);
        is("11 the pattern", x.cloth(1), Due.set("lll", "dll"));
        is("11 the cloth is as it was", x.cloth(0), Due.set("lld", "dll"));
        int[][] wrong = {{2, 0}, {0, 3}, {-1, 0}, {0, -1}, {LEAST, 0}, {MOST, MOST}};
        for (int[] w : wrong) {
            is("11 wrong", x.wish(w[0], w[1], true), BAD);
        }
        is("11 what is refused changes nothing", x.cloth(1), Due.set("lll", "dll"));
    }

    private static void promise12() {
        RowsColumns x = Due.told("cloth lld dll;");
        is("12 row", x.act(0, 0), 3);
        is("12 row", x.cloth(0), Due.set("ddl", "dll"));
        is("12 column", x.act(1, 0), 1);
        is("12 column", x.cloth(0), Due.set("ldl", "lll"));
        is("12 slant", x.act(2, 1), 1);
        is("12 slant", x.cloth(0), Due.set("lll", "dll"));
        is("12 first slant", x.act(2, 0), 2);
        is("12 last slant", x.act(2, 3), 3);
        is("12 the last row", x.act(0, 1), 2);
        is("12 the last column", x.act(1, 2), 4);
        is("12 the cloth", x.cloth(0), Due.set("dld", "ldd"));
        int[][] wrong = {{0, 2}, {1, 3}, {2, 4}, {3, 0}, {-1, 0}, {0, -1}, {1, -1}, {2, -1}, {LEAST, LEAST}, {2, MOST}};
        for (int[] w : wrong) {
            is("12 wrong", x.act(w[0], w[1]), BAD);
        }
        is("12 what is refused changes nothing", x.cloth(0), Due.set("dld", "ldd"));
        x = Due.told("cloth llllllll llllllll llllllll llllllll llllllll llllllll llllllll llllllll;");
        is("12 the long slant", x.act(2, 7), 8);
        is("12 the long slant", x.cloth(0), 0x0102040810204080L);
        is("12 the last row", x.act(0, 7), 14);
        is("12 the last slant", x.act(2, 14), 13);
    }

    private static void promise13() {
        RowsColumns x = Due.told("cloth lld dll;");
        is("13 a row and a column", x.turn(2, 1), 5);
        is("13 a row and a column", x.cloth(0), Due.set("dld", "ddd"));
        is("13 none", x.turn(0, 0), 5);
        is("13 all", x.turn(3, 7), 5);
        is("13 all", x.cloth(0), Due.set("dld", "ddd"));
        is("13 rows", x.turn(3, 0), 1);
        is("13 columns", x.turn(0, 4), 3);
        is("13 the cloth", x.cloth(0), Due.set("ldd", "lld"));
        int[][] wrong = {{4, 0}, {0, 8}, {-1, 0}, {0, -1}, {LEAST, 0}, {0, LEAST}, {MOST, MOST}};
        for (int[] w : wrong) {
            is("13 wrong", x.turn(w[0], w[1]), BAD);
        }
        is("13 what is refused changes nothing", x.cloth(0), Due.set("ldd", "lld"));
        x = Due.told("cloth llllllll llllllll llllllll llllllll llllllll llllllll llllllll llllllll;");
        is("13 eight by eight", x.turn(255, 0), 64);
        is("13 eight by eight", x.turn(0, 128), 56);
        is("13 eight by eight", x.turn(256, 0), BAD);
        is("13 eight by eight", x.turn(0, 256), BAD);
    }

    private static void promise14() {
        RowsColumns x = Due.told("cloth lll lll; day row 0; day column 2 slant 3 row 1; day slant 0;");
        is("14 none", x.go(0), 0);
        is("14 none", x.cloth(0), 0);
        is("14 one", x.go(1), 3);
        is("14 one", x.cloth(0), Due.set("ddd", "lll"));
        is("14 the first ones again", x.go(2), 4);
        is("14 the first ones again", x.cloth(0), Due.set("lld", "ddd"));
        is("14 above", x.go(4), BAD);
        is("14 below", x.go(-1), BAD);
        is("14 most", x.go(MOST), BAD);
        is("14 nothing is changed", x.cloth(0), Due.set("lld", "ddd"));
        is("14 all", x.go(3), 2);
        is("14 no days", new RowsColumns().go(1), BAD);
        is("14 no days", new RowsColumns().go(0), 0);
    }

    public static void main(String[] args) {
        promise8();
        promise9();
        promise10();
        promise11();
        promise12();
        promise13();
        promise14();
        DUE.close();
    }
}
