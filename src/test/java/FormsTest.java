/** Promises 15 to 27: forms, plans, the nearest cloth, those who are blind, slants, a duel, what was turned and spoilt. */
public final class FormsTest {
    private static final int BAD = -1, STATE = -2, NONE = -4;
    private static final int LEAST = Integer.MIN_VALUE, MOST = Integer.MAX_VALUE;
    private static final String LIGHT_EIGHT = "llllllll llllllll llllllll llllllll llllllll llllllll llllllll ";
    private static final Due DUE = new Due("FormsTest");

    private static void is(String call, long got, long want) {
        DUE.is(call, got, want);
    }

    private static void promise15() {
        RowsColumns x = Due.told("cloth dl ll; pattern dd ll;");
        is("15 one dark of four", x.form(0), Due.set("ll", "ld"));
        is("15 two in a row", x.form(1), 0);
        is("15 above", x.form(2), BAD);
        is("15 below", x.form(-1), BAD);
        is("15 the cloth is as it was", x.cloth(0), 1);
        is("15 no pattern", Due.told("cloth dl ll;").form(1), BAD);
        is("15 one row", Due.told("cloth dldl;").form(0), 0);
        is("15 one column", Due.told("cloth d l d;").form(0), 0);
        is("15 three by three", Due.told("cloth ddl ldd dld;").form(0), Due.set("lll", "ldl", "ldd"));
        is("15 the last square", Due.told("cloth " + LIGHT_EIGHT + "llllllld;").form(0), Long.MIN_VALUE);
    }

    private static void promise16() {
        is("16 four by four", new RowsColumns().forms(), 512);
        is("16 one row", Due.told("cloth dldldldl;").forms(), 1);
        is("16 two by three", Due.told("cloth dld ldl;").forms(), 4);
        is("16 eight by eight", Due.told("cloth " + LIGHT_EIGHT + "llllllll;").forms(), 1L << 49);
    }

    private static void promise17() {
        RowsColumns x = Due.told("cloth dld ldl;");
        is("17 no image", x.alike(0), STATE);
        is("17 above", x.alike(2), BAD);
        is("17 below", x.alike(-1), BAD);
        x.keep(0);
        is("17 itself", x.alike(0), 1);
        x.turn(1, 4);
        is("17 turned", x.alike(0), 1);
        x.paint(1, 2, x.square(1, 2) == 0);
        is("17 painted", x.alike(0), 0);
        is("17 no other image", x.alike(1), STATE);
        x.paint(1, 2, x.square(1, 2) == 0);
        x.cut(0, 2, 0, 2);
        is("17 another size", x.alike(0), 0);
        x.back(0);
        x.rotate(1);
        is("17 as many squares, another size", x.alike(0), 0);
    }

    private static void plan(String text, int acts, int rows, int columns, int days) {
        RowsColumns x = Due.told(text);
        is("18 acts: " + text, x.plan(0), acts);
        is("18 rows: " + text, x.plan(1), rows);
        is("18 columns: " + text, x.plan(2), columns);
        is("18 days: " + text, x.plan(3), days);
    }

    private static void promise18() {
        plan("cloth lll lll; pattern lll lll;", 0, 0, 0, 0);
        plan("cloth lll lll; pattern ddd lll;", 1, 1, 0, 1);
        plan("cloth lll lll; pattern lld lld;", 1, 0, 4, 1);
        plan("cloth lll lll; pattern ddd ddd;", 2, 3, 0, 2);
        plan("cloth ll ll; pattern dd dd;", 2, 0, 3, 2);
        plan("cloth ll ll; pattern ld dl;", 2, 1, 1, 1);
        plan("cloth ll ll; pattern dl ld;", 2, 1, 2, 1);
        plan("cloth lll lll lll; pattern ddd ddd ddd;", 3, 0, 7, 3);
        plan("cloth lll ldl; pattern ddl ldd;", 2, 1, 4, 1);
        plan("cloth ll ll ll ll ll; pattern dd dd ll ll ll;", 2, 3, 0, 2);
        RowsColumns x = Due.told("cloth lll lll; pattern lll lld;");
        is("18 none", x.plan(0), NONE);
        is("18 none", x.plan(3), NONE);
        is("18 above", x.plan(4), BAD);
        is("18 below", x.plan(-1), BAD);
        is("18 nothing is done", x.cloth(0), 0);
        x = new RowsColumns();
        is("18 no pattern", x.plan(0), STATE);
        is("18 no pattern", x.plan(3), STATE);
        is("18 no pattern, above", x.plan(4), BAD);
    }

    private static void nearest(String text, int unlike, int rows, int columns) {
        RowsColumns x = Due.told(text);
        is("19 unlike: " + text, x.nearest(0), unlike);
        is("19 rows: " + text, x.nearest(1), rows);
        is("19 columns: " + text, x.nearest(2), columns);
    }

    private static void promise19() {
        nearest("cloth lll lll; pattern lll lll;", 0, 0, 0);
        nearest("cloth lll lll; pattern lll lld;", 1, 0, 0);
        nearest("cloth lll lll; pattern ddd ddl;", 1, 0, 3);
        nearest("cloth ll ll; pattern dd dl;", 1, 0, 1);
        nearest("cloth lll lll lll; pattern ddd lll lld;", 1, 1, 0);
        nearest("cloth ll ll; pattern dd dd;", 0, 0, 3);
        RowsColumns x = Due.told("cloth lll lll; pattern lll lll;");
        is("19 above", x.nearest(3), BAD);
        is("19 below", x.nearest(-1), BAD);
        is("19 no pattern", new RowsColumns().nearest(0), STATE);
        is("19 no pattern, above", new RowsColumns().nearest(3), BAD);
    }

    private static void promise20() {
        RowsColumns x = Due.told("cloth ddd ddl; pattern ddd ddl;");
        is("20 dark", x.lightest(0), 1);
        is("20 rows", x.lightest(1), 0);
        is("20 columns", x.lightest(2), 3);
        is("20 nothing is done", x.cloth(0), Due.set("ddd", "ddl"));
        x = Due.told("cloth ddd lll lld;");
        is("20 dark", x.lightest(0), 1);
        is("20 rows", x.lightest(1), 1);
        is("20 columns", x.lightest(2), 0);
        is("20 above", x.lightest(3), BAD);
        is("20 below", x.lightest(-1), BAD);
        is("20 a light one", new RowsColumns().lightest(0), 0);
        x = Due.told("cloth dl;");
        is("20 one row", x.lightest(0), 0);
        is("20 one row", x.lightest(1), 0);
        is("20 one row", x.lightest(2), 1);
    }

    private static void blind(String text, int days, int unlike) {
        RowsColumns x = Due.told(text);
        is("21 days: " + text, x.blind(0), days);
        is("21 unlike: " + text, x.blind(1), unlike);
    }

    private static void promise21() {
        blind("cloth ll ll; pattern ll ll;", 0, 0);
        blind("cloth lll lll lll; pattern ddd lll lll;", 1, 0);
        blind("cloth lll lll lll; pattern lld lld lld;", 1, 0);
        blind("cloth lll lll lll; pattern ddd ddd lll;", 2, 0);
        blind("cloth l; pattern d;", NONE, 1);
        blind("cloth ll ll; pattern dl ll;", NONE, 1);
        blind("cloth ll ll; pattern dd ll;", 1, 0);
        blind("cloth ll ll; pattern dd dl;", NONE, 1);
        blind("cloth ll ll; pattern dd dd;", NONE, 2);
        RowsColumns x = Due.told("cloth lll lll; pattern lll lll;");
        is("21 above", x.blind(2), BAD);
        is("21 below", x.blind(-1), BAD);
        is("21 no pattern", new RowsColumns().blind(0), STATE);
        is("21 no pattern", new RowsColumns().blind(1), STATE);
        is("21 no pattern, above", new RowsColumns().blind(2), BAD);
    }

    private static void slanted(String text, int acts, int rows, int columns, int slants) {
        RowsColumns x = Due.told(text);
        is("22 acts: " + text, x.slanted(0), acts);
        is("22 rows: " + text, x.slanted(1), rows);
        is("22 columns: " + text, x.slanted(2), columns);
        is("22 slants: " + text, x.slanted(3), slants);
    }

    private static void promise22() {
        slanted("cloth lll lll lll; pattern lll lll lll;", 0, 0, 0, 0);
        slanted("cloth lll lll lll; pattern lld ldl dll;", 1, 0, 0, 4);
        slanted("cloth lll lll lll; pattern dll lll lll;", 1, 0, 0, 1);
        slanted("cloth lll lll lll; pattern lll lll lld;", 1, 0, 0, 16);
        slanted("cloth lll lll lll; pattern ldd dll dll;", 2, 1, 1, 0);
        slanted("cloth lll lll lll; pattern ddl dld ldd;", 4, 0, 0, 27);
        slanted("cloth lll lll lll; pattern lld dld ldl;", 4, 1, 0, 11);
        slanted("cloth lll lll lll; pattern ldd dll dld;", 3, 1, 1, 16);
        slanted("cloth llll llll llll llll; pattern lldl llll llll llll;", NONE, NONE, NONE, NONE);
        slanted("cloth l; pattern d;", 1, 0, 0, 1);
        slanted("cloth l l; pattern d d;", 1, 0, 1, 0);
        slanted("cloth ll; pattern dd;", 1, 1, 0, 0);
        slanted("cloth lllll lllll lllll lllll lllll; pattern lllll lllll lllll lllll lllld;", 1, 0, 0, 256);
        slanted("cloth llllllll llllllll; pattern llllllll llllllld;", 1, 0, 0, 256);
        slanted("cloth llllll lllll" + "l llllll llllll llllll; pattern llllll llllll llllll llllll llllll;", STATE, STATE, STATE, STATE);
        RowsColumns x = Due.told("cloth lll lll; pattern lll lll;");
        is("22 above", x.slanted(4), BAD);
        is("22 below", x.slanted(-1), BAD);
        is("22 no pattern", new RowsColumns().slanted(0), STATE);
        is("22 no pattern, above", new RowsColumns().slanted(4), BAD);
    }

    private static void power(String text, int straight, int slanted) {
        RowsColumns x = Due.told(text);
        is("23 rows and columns: " + text, x.power(0), straight);
        is("23 with slants: " + text, x.power(1), slanted);
        is("23 above", x.power(2), BAD);
        is("23 below", x.power(-1), BAD);
    }

    private static void promise23() {
        power("cloth d;", 1, 1);
        power("cloth dl;", 2, 2);
        power("cloth dl dl;", 3, 4);
        power("cloth dl dl ll;", 4, 6);
        power("", 7, 12);
        power("cloth " + LIGHT_EIGHT + "llllllll;", 15, 28);
    }

    private static void duel(String text, int n, boolean sheFirst, int end, int move) {
        RowsColumns x = Due.told(text);
        is("24 end of " + n + sheFirst + ": " + text, x.duel(n, sheFirst, 0), end);
        is("24 move of " + n + sheFirst + ": " + text, x.duel(n, sheFirst, 1), move);
        is("24 nothing is done", x.cloth(0), Due.told(text).cloth(0));
    }

    private static void promise24() {
        duel("cloth l;", 1, true, 1, 0);
        duel("cloth d;", 1, true, 1, 8);
        duel("cloth d;", 1, false, 0, 0);
        duel("cloth l;", 1, false, 0, 8);
        duel("cloth l;", 2, true, 0, 0);
        duel("cloth l;", 2, false, 1, 0);
        duel("cloth dl ll;", 1, true, 3, 1);
        duel("cloth ll ll;", 1, true, 2, 0);
        duel("cloth dl dl;", 1, true, 2, 0);
        duel("cloth dl dl;", 1, false, 0, 0);
        duel("cloth ld ld;", 1, false, 0, 1);
        duel("cloth dd dl;", 1, true, 3, 1);
        duel("cloth dd dd;", 1, true, 4, 8);
        duel("cloth dd dd;", 1, false, 2, 0);
        duel("cloth dd dl;", 1, false, 1, 0);
        duel("cloth dld lll ddd;", 1, true, 8, 1);
        duel("cloth dld lll ddd;", 1, false, 4, 0);
        duel("cloth lll lll;", 2, true, 3, 0);
        duel("cloth lll lll;", 3, true, 4, 0);
        RowsColumns x = Due.told("cloth lll lll;");
        int[][] wrong = {{0, 0}, {5, 0}, {-1, 0}, {1, 2}, {1, -1}, {LEAST, 0}, {MOST, 1}};
        for (int[] w : wrong) {
            is("24 wrong", x.duel(w[0], true, w[1]), BAD);
            is("24 wrong", x.duel(w[0], false, w[1]), BAD);
        }
    }

    private static void promise25() {
        RowsColumns x = Due.told("cloth dll lll;");
        is("25 no image", x.turned(0, 0), STATE);
        is("25 above", x.turned(2, 0), BAD);
        is("25 below", x.turned(-1, 0), BAD);
        is("25 no image, above", x.turned(0, 3), BAD);
        x.keep(0);
        is("25 none turned", x.turned(0, 0), 0);
        x.turn(2, 4);
        is("25 acts", x.turned(0, 0), 2);
        is("25 rows", x.turned(0, 1), 2);
        is("25 columns", x.turned(0, 2), 4);
        x.turn(0, 3);
        is("25 fewer the other way", x.turned(0, 0), 1);
        is("25 fewer the other way", x.turned(0, 1), 1);
        is("25 fewer the other way", x.turned(0, 2), 0);
        is("25 above", x.turned(0, 3), BAD);
        is("25 below", x.turned(0, -1), BAD);
        is("25 no other image", x.turned(1, 0), STATE);
        x.paint(0, 0, x.square(0, 0) == 0);
        is("25 none", x.turned(0, 0), NONE);
        is("25 none", x.turned(0, 1), NONE);
        x.rotate(1);
        is("25 another size", x.turned(0, 0), STATE);
    }

    private static void promise26() {
        RowsColumns x = Due.told("cloth lll lll lll; pattern ddd lld lll;");
        is("26 one could be", x.spoilt(0), 1);
        is("26 the last of row 1", x.spoilt(1), 10);
        x.wish(1, 2, false);
        is("26 none could be", x.spoilt(0), 0);
        is("26 none", x.spoilt(1), NONE);
        is("26 above", x.spoilt(2), BAD);
        is("26 below", x.spoilt(-1), BAD);
        is("26 no pattern", new RowsColumns().spoilt(0), STATE);
        is("26 no pattern", new RowsColumns().spoilt(1), STATE);
        is("26 no pattern, above", new RowsColumns().spoilt(2), BAD);
        x = Due.told("cloth ll ll; pattern ld ll;");
        is("26 any of four", x.spoilt(0), 4);
        is("26 the first", x.spoilt(1), 0);
        x = Due.told("cloth llll; pattern dldl;");
        is("26 any of a row", x.spoilt(0), 4);
        x = Due.told("cloth lll lll; pattern lll lld;");
        is("26 the two of a column", x.spoilt(0), 2);
        is("26 the first of these", x.spoilt(1), 2);
        x = Due.told("cloth " + LIGHT_EIGHT + "llllllll; pattern " + LIGHT_EIGHT + "llllllld;");
        is("26 the last square", x.spoilt(1), 63);
        x = Due.told("cloth lll lll lll; pattern dll ldl lld;");
        is("26 two are too many", x.spoilt(0), 0);
    }

    private static void promise27() {
        RowsColumns x = Due.told("cloth llll llll llll llll; pattern llll lldl llll lldd;");
        x.wish(1, 2, true);
        x.wish(3, 2, false);
        x.turn(5, 9);
        is("27 one pair could be", x.both(0), 1);
        is("27 its squares", x.both(1), 64 * 10 + 27);
        x.wish(3, 3, false);
        is("27 one alone", x.both(0), 0);
        is("27 one alone", x.both(1), NONE);
        is("27 above", x.both(2), BAD);
        is("27 below", x.both(-1), BAD);
        is("27 no pattern", new RowsColumns().both(0), STATE);
        is("27 no pattern", new RowsColumns().both(1), STATE);
        is("27 no pattern, above", new RowsColumns().both(2), BAD);
        x = Due.told("cloth ll ll; pattern ll ll;");
        is("27 any two of four", x.both(0), 6);
        is("27 the first two", x.both(1), 1);
        x = Due.told("cloth lll; pattern dld;");
        is("27 any two of a row", x.both(0), 3);
        is("27 the first two", x.both(1), 1);
        x = Due.told("cloth lll lll; pattern lll lll;");
        is("27 those of a column", x.both(0), 3);
        is("27 the first of these", x.both(1), 8);
        x = Due.told("cloth d; pattern l;");
        is("27 one square alone", x.both(0), 0);
        x = Due.told("cloth " + LIGHT_EIGHT + "llllllll; pattern " + LIGHT_EIGHT + "lllllldd;");
        is("27 the last two", x.both(0), 1);
        is("27 the last two", x.both(1), 64 * 62 + 63);
    }

    public static void main(String[] args) {
        promise15();
        promise16();
        promise17();
        promise18();
        promise19();
        promise20();
        promise21();
        promise22();
        promise23();
        promise24();
        promise25();
        promise26();
        promise27();
        DUE.close();
    }
}
