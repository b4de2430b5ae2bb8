/**
 * Promises 8 to 14: each sentence that names a bound has a test of its own, for every size of a cloth where the
 * size is the bound. Every private method here is run.
 */
public final class BoundsClothTest {
    private static final int BAD = -1, STATE = -2;
    private static final int LEAST = Integer.MIN_VALUE, MOST = Integer.MAX_VALUE;
    private static final int[] FAR = {LEAST, MOST, -8, 8, 64, 256, -256, 1 << 16, 1 << 28, 1 << 30};
    private static final Due DUE = new Due("BoundsClothTest");

    private BoundsClothTest() {
    }

    private static void is(String call, long got, long want) {
        DUE.is(call, got, want);
    }

    private static long row(int wide, int r) {
        return (1L << wide) - 1 << 8 * r;
    }

    private static long column(int high, int c) {
        long set = 0;
        for (int r = 0; r < high; r++) {
            set |= 1L << 8 * r + c;
        }
        return set;
    }

    private static long slant(int high, int wide, int d) {
        long set = 0;
        for (int r = 0; r < high; r++) {
            for (int c = 0; c < wide; c++) {
                set |= r + c == d ? 1L << 8 * r + c : 0;
            }
        }
        return set;
    }

    // ---- cloth

    private static void clothIsOf0And1() {
        RowsColumns x = Due.wished(2, 2, 1, 2);
        is("the cloth", x.cloth(0), 1);
        is("the pattern", x.cloth(1), 2);
    }

    private static void clothOfAnythingElseIs0() {
        RowsColumns x = Due.wished(8, 8, -1, -1);
        is("2", x.cloth(2), 0);
        is("-1", x.cloth(-1), 0);
        for (int of : FAR) {
            is("" + of, x.cloth(of), 0);
        }
    }

    private static void clothOfNoPatternIs0() {
        RowsColumns x = Due.wished(2, 2, 3, 3);
        x.cut(0, 2, 0, 2);
        is("it was cut away", x.cloth(1), 0);
        is("none at first", new RowsColumns().cloth(1), 0);
    }

    private static void clothsOfTheGreatestSizeAreWhole() {
        RowsColumns x = Due.wished(8, 8, -1, Long.MIN_VALUE);
        is("all", x.cloth(0), -1);
        is("the last alone", x.cloth(1), Long.MIN_VALUE);
    }

    // ---- square, paint, wish

    private static void aSquareThereIs() {
        Due.everySize((high, wide) -> {
            RowsColumns x = Due.cloth(high, wide, 1L << 8 * (high - 1) + wide - 1);
            is("last of " + high + wide, x.square(high - 1, wide - 1), 1);
            is("first of " + high + wide, x.square(0, 0), high * wide == 1 ? 1 : 0);
        });
    }

    private static void aSquareThereIsNot() {
        Due.everySize((high, wide) -> {
            RowsColumns x = Due.cloth(high, wide, Due.all(high, wide));
            is("below of " + high + wide, x.square(high, wide - 1), BAD);
            is("beside of " + high + wide, x.square(high - 1, wide), BAD);
            is("row -1 of " + high + wide, x.square(-1, wide - 1), BAD);
            is("column -1 of " + high + wide, x.square(high - 1, -1), BAD);
        });
    }

    private static void aSquareFarAway() {
        RowsColumns x = Due.cloth(8, 8, -1);
        for (int far : FAR) {
            is("square(" + far + ", 0)", x.square(far, 0), BAD);
            is("square(0, " + far + ")", x.square(0, far), BAD);
            is("square(" + far + ", " + far + ")", x.square(far, far), BAD);
        }
    }

    private static void paintOfASquareThereIs() {
        Due.everySize((high, wide) -> {
            RowsColumns x = Due.cloth(high, wide, 0);
            long last = 1L << 8 * (high - 1) + wide - 1;
            is("dark " + high + wide, x.paint(high - 1, wide - 1, true), 0);
            is("is dark " + high + wide, x.cloth(0), last);
            is("dark again " + high + wide, x.paint(high - 1, wide - 1, true), 1);
            is("is dark still " + high + wide, x.cloth(0), last);
            is("light " + high + wide, x.paint(high - 1, wide - 1, false), 1);
            is("is light " + high + wide, x.cloth(0), 0);
            is("light again " + high + wide, x.paint(high - 1, wide - 1, false), 0);
            is("is light still " + high + wide, x.cloth(0), 0);
        });
    }

    private static void paintOfASquareThereIsNot() {
        Due.everySize((high, wide) -> {
            RowsColumns x = Due.cloth(high, wide, 0);
            is("below of " + high + wide, x.paint(high, 0, true), BAD);
            is("beside of " + high + wide, x.paint(0, wide, true), BAD);
            is("row -1 of " + high + wide, x.paint(-1, 0, true), BAD);
            is("column -1 of " + high + wide, x.paint(0, -1, true), BAD);
            is("nothing is painted " + high + wide, x.cloth(0), 0);
        });
    }

    private static void paintFarAway() {
        RowsColumns x = Due.cloth(8, 8, 0);
        for (int far : FAR) {
            is("paint(" + far + ", 0)", x.paint(far, 0, true), BAD);
            is("paint(0, " + far + ")", x.paint(0, far, true), BAD);
        }
        is("nothing is painted", x.cloth(0), 0);
    }

    private static void paintLeavesThePattern() {
        RowsColumns x = Due.wished(1, 1, 0, 0);
        x.paint(0, 0, true);
        is("pattern", x.cloth(1), 0);
    }

    private static void wishOfASquareThereIs() {
        Due.everySize((high, wide) -> {
            RowsColumns x = Due.wished(high, wide, 0, 0);
            long last = 1L << 8 * (high - 1) + wide - 1;
            is("dark " + high + wide, x.wish(high - 1, wide - 1, true), 0);
            is("is dark " + high + wide, x.cloth(1), last);
            is("dark again " + high + wide, x.wish(high - 1, wide - 1, true), 1);
            is("light " + high + wide, x.wish(high - 1, wide - 1, false), 1);
            is("is light " + high + wide, x.cloth(1), 0);
            is("the cloth " + high + wide, x.cloth(0), 0);
        });
    }

    private static void wishOfASquareThereIsNot() {
        Due.everySize((high, wide) -> {
            RowsColumns x = Due.wished(high, wide, 0, 0);
            is("below of " + high + wide, x.wish(high, 0, true), BAD);
            is("beside of " + high + wide, x.wish(0, wide, true), BAD);
            is("row -1 of " + high + wide, x.wish(-1, 0, true), BAD);
            is("column -1 of " + high + wide, x.wish(0, -1, true), BAD);
            is("nothing is wished " + high + wide, x.cloth(1), 0);
        });
    }

    private static void wishWithoutAPattern() {
        RowsColumns x = new RowsColumns();
        is("the last square", x.wish(3, 3, true), STATE);
        is("there is none still", x.rule(2), 0);
        Due.tell(x, "cloth d; pattern d;");
        is("there is one", x.wish(0, 0, false), 1);
        Due.tell(x, "cloth d;");
        is("there is none more", x.wish(0, 0, false), STATE);
    }

    private static void wishIsBadAheadOfState() {
        is("row 4", new RowsColumns().wish(4, 0, true), BAD);
        is("column -1", new RowsColumns().wish(0, -1, true), BAD);
    }

    // ---- act

    private static void rowsFrom0ToTheLast() {
        Due.everySize((high, wide) -> {
            for (int r = 0; r < high; r++) {
                RowsColumns x = Due.cloth(high, wide, 0);
                is("row " + r + " of " + high + wide, x.act(0, r), wide);
                is("its squares", x.cloth(0), row(wide, r));
                is("back", x.act(0, r), 0);
            }
        });
    }

    private static void columnsFrom0ToTheLast() {
        Due.everySize((high, wide) -> {
            for (int c = 0; c < wide; c++) {
                RowsColumns x = Due.cloth(high, wide, 0);
                is("column " + c + " of " + high + wide, x.act(1, c), high);
                is("its squares", x.cloth(0), column(high, c));
                is("back", x.act(1, c), 0);
            }
        });
    }

    private static void slantsFrom0ToHighAndWideLess2() {
        Due.everySize((high, wide) -> {
            for (int d = 0; d <= high + wide - 2; d++) {
                RowsColumns x = Due.cloth(high, wide, 0);
                long squares = slant(high, wide, d);
                is("slant " + d + " of " + high + wide, x.act(2, d), Long.bitCount(squares));
                is("its squares", x.cloth(0), squares);
                is("back", x.act(2, d), 0);
            }
        });
    }

    private static void linesThereAreNot() {
        Due.everySize((high, wide) -> {
            RowsColumns x = Due.cloth(high, wide, 0);
            is("row of " + high + wide, x.act(0, high), BAD);
            is("column of " + high + wide, x.act(1, wide), BAD);
            is("slant of " + high + wide, x.act(2, high + wide - 1), BAD);
            for (int kind = 0; kind < 3; kind++) {
                is("-1 of kind " + kind, x.act(kind, -1), BAD);
            }
            is("nothing is turned", x.cloth(0), 0);
        });
    }

    private static void kindsThereAreNot() {
        RowsColumns x = Due.cloth(8, 8, 0);
        is("3", x.act(3, 0), BAD);
        is("-1", x.act(-1, 0), BAD);
        for (int far : FAR) {
            is("kind " + far, x.act(far, 0), BAD);
        }
        is("nothing is turned", x.cloth(0), 0);
    }

    private static void linesFarAway() {
        RowsColumns x = Due.cloth(8, 8, 0);
        for (int kind = 0; kind < 3; kind++) {
            for (int far : FAR) {
                if (kind != 2 || far != 8) {
                    is("act(" + kind + ", " + far + ")", x.act(kind, far), BAD);
                }
            }
        }
        is("slant 8 there is", x.act(2, 8), 7);
    }

    private static void anActTurnsBothWays() {
        RowsColumns x = Due.told("cloth dld;");
        is("dark squares then", x.act(0, 0), 1);
        is("dark becomes light, light dark", x.cloth(0), 2);
    }

    // ---- turn

    private static void turnNothing() {
        Due.everySize((high, wide) -> {
            RowsColumns x = Due.cloth(high, wide, 1);
            is("dark of " + high + wide, x.turn(0, 0), 1);
            is("cloth of " + high + wide, x.cloth(0), 1);
        });
    }

    private static void turnEveryRow() {
        Due.everySize((high, wide) -> {
            RowsColumns x = Due.cloth(high, wide, 0);
            is("dark of " + high + wide, x.turn((1 << high) - 1, 0), high * wide);
            is("cloth of " + high + wide, x.cloth(0), Due.all(high, wide));
        });
    }

    private static void turnEveryColumn() {
        Due.everySize((high, wide) -> {
            RowsColumns x = Due.cloth(high, wide, 0);
            is("dark of " + high + wide, x.turn(0, (1 << wide) - 1), high * wide);
            is("cloth of " + high + wide, x.cloth(0), Due.all(high, wide));
        });
    }

    private static void turnEveryRowAndColumn() {
        Due.everySize((high, wide) -> {
            RowsColumns x = Due.cloth(high, wide, 1);
            is("dark of " + high + wide, x.turn((1 << high) - 1, (1 << wide) - 1), 1);
            is("cloth of " + high + wide, x.cloth(0), 1);
        });
    }

    private static void turnTheLastRowAndColumn() {
        Due.everySize((high, wide) -> {
            RowsColumns x = Due.cloth(high, wide, 0);
            is("dark of " + high + wide, x.turn(1 << high - 1, 1 << wide - 1), high + wide - 2);
            is("cloth of " + high + wide, x.cloth(0), row(wide, high - 1) ^ column(high, wide - 1));
        });
    }

    private static void turnRowsThereAreNot() {
        Due.everySize((high, wide) -> {
            RowsColumns x = Due.cloth(high, wide, 0);
            is("of " + high + wide, x.turn(1 << high, 0), BAD);
            is("and one there is of " + high + wide, x.turn((1 << high) + 1, 1), BAD);
            is("nothing is turned", x.cloth(0), 0);
        });
    }

    private static void turnColumnsThereAreNot() {
        Due.everySize((high, wide) -> {
            RowsColumns x = Due.cloth(high, wide, 0);
            is("of " + high + wide, x.turn(0, 1 << wide), BAD);
            is("and one there is of " + high + wide, x.turn(1, (1 << wide) + 1), BAD);
            is("nothing is turned", x.cloth(0), 0);
        });
    }

    private static void turnBelow0() {
        RowsColumns x = Due.cloth(8, 8, 0);
        is("rows", x.turn(-1, 0), BAD);
        is("columns", x.turn(0, -1), BAD);
        is("least rows", x.turn(LEAST, 0), BAD);
        is("least columns", x.turn(0, LEAST), BAD);
        is("nothing is turned", x.cloth(0), 0);
    }

    // ---- go

    private static void goNoDays() {
        RowsColumns x = Due.told("cloth dd; day row 0;");
        is("dark squares", x.go(0), 2);
        is("cloth", x.cloth(0), 3);
    }

    private static void goAsManyDaysAsThereAre() {
        RowsColumns x = Due.told("cloth ll; day column 0; day column 1;");
        is("all", x.go(2), 2);
        is("one more", x.go(3), BAD);
        is("nothing is turned", x.cloth(0), 3);
    }

    private static void goTwelveDays() {
        RowsColumns x = Due.told("cloth l;" + "day row 0 column 0 slant 0;".repeat(11) + "day row 0;");
        is("eleven", x.go(11), 1);
        is("twelve", x.go(12), 1);
        is("thirteen", x.go(13), BAD);
        is("one", x.go(1), 0);
    }

    private static void goBelow0() {
        RowsColumns x = Due.told("cloth l; day row 0;");
        is("-1", x.go(-1), BAD);
        is("least", x.go(LEAST), BAD);
        is("most", x.go(MOST), BAD);
        is("nothing is turned", x.cloth(0), 0);
    }

    private static void goTheFirstDays() {
        RowsColumns x = Due.told("cloth lll lll; day row 1; day column 2; day slant 0;");
        is("one", x.go(1), 3);
        is("its row", x.cloth(0), Due.set("lll", "ddd"));
    }

    private static void goEveryActOfADay() {
        RowsColumns x = Due.told("cloth lll lll; day row 0 column 2 slant 3;");
        is("three acts", x.go(1), 2);
        is("cloth", x.cloth(0), Due.set("ddl", "lll"));
    }

    private static void anActTwiceADayIsDoneTwice() {
        RowsColumns x = Due.told("cloth l; day row 0 row 0; day row 0 row 0 row 0;");
        is("twice", x.go(1), 0);
        is("thrice", x.go(2), 1);
    }

    private static void goLeavesTheDays() {
        RowsColumns x = Due.told("cloth l; day row 0;");
        x.go(1);
        is("days", x.rule(3), 1);
        is("act", x.day(0, 0), 0);
        is("again", x.go(1), 0);
    }

    private static void theDaysLastActsAreOfTheGreatestCloth() {
        RowsColumns x = Due.told("cloth" + " llllllll".repeat(8) + "; day row 7 column 7 slant 14; day slant 7;");
        is("one", x.go(1), 15);
        is("cloth", x.cloth(0), row(8, 7) ^ column(8, 7) ^ 1L << 63);
    }

    public static void main(String[] args) {
        DUE.every(BoundsClothTest.class);
        DUE.close();
    }
}
