/** Promises 1 to 7: a new object and its text. */
public final class TextTest {
    private static final int BAD = -1, FULL = -3, NONE = -4;
    private static final Due DUE = new Due("TextTest");

    private static void is(String call, long got, long want) {
        DUE.is(call, got, want);
    }

    private static void promise1() {
        RowsColumns x = new RowsColumns();
        is("1 high", x.rule(0), 4);
        is("1 wide", x.rule(1), 4);
        is("1 pattern", x.rule(2), 0);
        is("1 days", x.rule(3), 0);
        is("1 slants", x.rule(4), 7);
        is("1 cloth", x.cloth(0), 0);
        is("1 pattern's set", x.cloth(1), 0);
        is("1 fault", x.fault(), 0);
        is("1 torn", x.torn(), 0);
        is("1 images", x.count(3), 0);
        is("1 tape", x.count(4), 0);
        is("1 cells", x.count(5), NONE);
        for (int k = 0; k < 4; k++) {
            is("1 sheet of nothing", x.lay(k, 0, 0), -11);
        }
        is("1 BAD", RowsColumns.BAD, -1);
        is("1 STATE", RowsColumns.STATE, -2);
        is("1 FULL", RowsColumns.FULL, -3);
        is("1 NONE", RowsColumns.NONE, -4);
        x.turn(15, 1);
        is("1 another object is its own", new RowsColumns().cloth(0), 0);
    }

    private static void promise2() {
        RowsColumns x = new RowsColumns();
        for (int i = 1; i <= 40; i++) {
            is("2 feed", x.feed(0x2020202020202020L), 8 * i);
        }
        is("2 feed, full", x.feed(0x2020202020202020L), FULL);
        is("2 full changes nothing", x.count(4), 320);
        is("2 all blanks", x.text(), 0);
        for (int i = 1; i <= 40; i++) {
            x.feed(-1);
        }
        x.end(313);
        is("2 feed, 7 bytes left", x.feed(0), FULL);
        is("2 nothing is changed", x.count(4), 313);
        x.end(312);
        is("2 feed, 8 bytes left", x.feed(0), 320);
        x.end(0);
        is("2 the highest first", x.feed(('c' * 256L + 'l') << 48 | ('o' * 256L + 't') << 32 | ('h' * 256L + ' ') << 16 | 'd' * 256L + ';'), 8);
        is("2 the highest first", x.text(), 1);
        is("2 the highest first", x.cloth(0), 1);
        x.feed(0xFF20202020202020L);
        is("2 a byte with a sign", x.text(), -10);
        is("2 a byte with a sign", x.fault(), 1);
    }

    private static void promise3() {
        RowsColumns x = new RowsColumns();
        is("3 end(0) of an empty tape", x.end(0), 0);
        is("3 end(1) of an empty tape", x.end(1), BAD);
        x.feed(0x6379202020202020L);
        is("3 above", x.end(9), BAD);
        is("3 below", x.end(-1), BAD);
        is("3 least", x.end(Integer.MIN_VALUE), BAD);
        is("3 most", x.end(Integer.MAX_VALUE), BAD);
        is("3 nothing is changed", x.count(4), 8);
        is("3 all", x.end(8), 8);
        is("3 first", x.end(1), 8);
        is("3 first", x.count(4), 1);
        is("3 behind", x.feed(Due.eight(Due.bytesOf("loth dl;"), 0)), 9);
        is("3 what was cut is gone", x.text(), 1);
        is("3 what was cut is gone", x.cloth(0), 1);
    }

    private static void taken(String text, int lines) {
        RowsColumns x = new RowsColumns();
        is("4 text " + text, Due.tell(x, text), lines);
        is("5 fault of " + text, x.fault(), 0);
        is("4 tape is empty", x.count(4), 0);
    }

    /** What stood before must stand behind a fault. */
    private static void refused(String text, int place, int fault) {
        RowsColumns x = Due.told("cloth dl ld ll; pattern dd dd dl; day row 2 slant 3;");
        x.keep(1);
        is("4 text " + text, Due.tell(x, text), -10 - place);
        is("5 fault of " + text, x.fault(), fault);
        is("4 tape is empty", x.count(4), 0);
        is("4 cloth stays", x.cloth(0), Due.set("dl", "ld", "ll"));
        is("4 pattern stays", x.cloth(1), Due.set("dd", "dd", "dl"));
        is("4 size stays", x.rule(0) * 10 + x.rule(1), 32);
        is("4 days stay", x.rule(3), 1);
        is("4 acts stay", x.day(0, -1), 2);
        is("4 act stays", x.day(0, 1), 43);
        is("4 images stay", x.count(3), 1);
    }

    private static void promise4() {
        taken("", 0);
        taken("     ", 0);
        taken("cloth d;", 1);
        taken("  cloth   d  ;  ", 1);
        taken("cloth d;pattern d;day row0;", 3);
        taken("pattern dddd dddd dddd dddd; cloth dddd llll dddd llll;", 2);
        taken("day row 3column 3slant 6;", 1);
        taken("day row 07 slant 00; cloth d d d d d d d d;", 2);
        taken("day slant 14 column 7 row 7; cloth dddddddd dddddddd dddddddd dddddddd dddddddd dddddddd dddddddd llllllll;", 2);
        taken("day row 0;day row 0;day row 0;day row 0;day row 0;day row 0;day row 0;day row 0;day row 0;day row 0;"
            + "day row 0;day row 0;cloth d;pattern l;", 14);
        String wide = " ".repeat(312) + "cloth d;";
        taken(wide, 1);
    }

    private static void promise4tells() {
        RowsColumns x = Due.told("cloth dld lll; pattern ddd ddd; day row 1; day column 2 slant 3;");
        is("4 high", x.rule(0), 2);
        is("4 wide", x.rule(1), 3);
        is("4 has a pattern", x.rule(2), 1);
        is("4 days", x.rule(3), 2);
        is("4 cloth", x.cloth(0), 5);
        is("4 pattern", x.cloth(1), 0x707);
        x.keep(0);
        x.keep(1);
        x.sheet(2, 1, 5);
        x.lay(2, 4, 77);
        is("4 day alone", Due.tell(x, "day slant 6;"), 1);
        is("4 without a cloth 4 by 4", x.rule(0) * 10 + x.rule(1), 44);
        is("4 without a cloth light", x.cloth(0), 0);
        is("4 without a pattern none", x.rule(2), 0);
        is("4 days in place of those", x.rule(3), 1);
        is("4 images are gone", x.count(3), 0);
        is("4 sheets stay", x.lay(2, 4, 1), 1);
        is("4 without days none", Due.tell(x, "cloth dl;"), 1);
        is("4 without days none", x.rule(3), 0);
        is("4 empty tells all", x.text(), 0);
        is("4 empty tells all", x.rule(1), 4);
    }

    private static void promise5() {
        is("5 at first", new RowsColumns().fault(), 0);
        refused(",", 0, 1);
        refused("cloth d;A", 8, 1);
        refused(".", 0, 1);
        refused("cloth d.", 7, 1);
        refused("zebra", 0, 2);
        refused("cloth dz;", 6, 2);
        refused("aloth d;", 0, 2);
        refused("cloti d;", 0, 2);
        refused("cattern d;", 0, 2);
        refused("bay row 1;", 0, 2);
        refused("day now 1;", 4, 2);
        refused("day volumn 1;", 4, 2);
        refused("day plant 1;", 4, 2);
        refused("cloth d; pattern l;\u00e9", 19, 1);
        refused("cloth d\n;", 7, 1);
        refused("cloth d`;", 7, 1);
        refused("cloth d{;", 7, 1);
        refused("day row /;", 8, 1);
        refused("day row :;", 8, 1);
        refused("day row 000;", 8, 1);
        refused("123", 0, 1);
        refused("cloth d;     4294967297", 13, 1);
        refused("cloth", 5, 2);
        refused("cloth  ", 7, 2);
        refused("cloth d", 7, 2);
        refused("cloth d d  ", 11, 2);
        refused("cloth;", 5, 2);
        refused("cloth 1;", 6, 2);
        refused("cloth d 1;", 8, 2);
        refused("cloth d; pattern;", 16, 2);
        refused("cloth cloth d;", 6, 2);
        refused("cloth dlx;", 6, 2);
        refused("cloth d dddddddddddx;", 8, 2);
        refused("clothd;", 0, 2);
        refused("clot d;", 0, 2);
        refused("row 1;", 0, 2);
        refused("12;", 0, 2);
        refused(";", 0, 2);
        refused("cloth d;;", 8, 2);
        refused("day", 3, 2);
        refused("day;", 3, 2);
        refused("day 1;", 4, 2);
        refused("day row", 7, 2);
        refused("day row;", 7, 2);
        refused("day row row 1;", 8, 2);
        refused("day row 1", 9, 2);
        refused("day row 1 2;", 10, 2);
        refused("day row 1 rows 2;", 10, 2);
        refused("day row 1 colum 2;", 10, 2);
        refused("day row 1 slants 2;", 10, 2);
        refused("day row 1 day row 2;", 10, 2);
        refused("cloth xyz ,", 6, 2);
        refused("cloth ddddddddd;", 6, 3);
        refused("cloth d dl;", 8, 3);
        refused("cloth dl d;", 9, 3);
        refused("cloth dddddddd ddddddddd;", 15, 3);
        refused("cloth d; pattern d ll;", 19, 3);
        refused("day row 8;", 8, 3);
        refused("day column 8;", 11, 3);
        refused("day slant 15;", 10, 3);
        refused("day slant 99,", 10, 3);
        refused("cloth d;cloth d;", 8, 4);
        refused("cloth d;cloth", 8, 4);
        refused("cloth d;cloth,", 8, 4);
        refused("pattern d;cloth d; pattern d;", 19, 4);
        refused("cloth d d d d d d d d d;", 22, 5);
        refused("cloth d d d d d d d d dd;", 22, 3);
        refused("cloth d d d d d d d d x;", 22, 2);
        refused("cloth d d d d d d d d,;", 21, 1);
        refused("day row 1 row 1 row 1 row 1;", 22, 5);
        refused("day row 1 row 1 row 1 row 8;", 22, 5);
        refused("day row 1 row 1 row 1 row,", 22, 5);
        refused("day row 1 row 1 row 1 days", 22, 2);
        refused("day row 1 row 1 row 1", 21, 2);
        String twelve = "day row 1;".repeat(12);
        refused(twelve + "day row 1;", 120, 5);
        refused(twelve + "day", 120, 5);
        refused(twelve + "days", 120, 2);
        refused("cloth d; pattern dd;", 20, 6);
        refused("cloth d; pattern d d; ", 22, 6);
        refused("pattern ddd ddd ddd ddd;", 24, 6);
        refused("cloth dl; pattern d d; day row 7;", 33, 6);
        refused("day row 4;", 10, 7);
        refused("day column 4; ", 14, 7);
        refused("day slant 7;", 12, 7);
        refused("day row 0; day column 1 row 1; cloth dl;", 40, 7);
        refused("day slant 2; cloth dl;", 22, 7);
        RowsColumns x = new RowsColumns();
        Due.tell(x, "?");
        is("5 latest", x.fault(), 1);
        x.act(0, 9);
        is("5 no other call tells a fault", x.fault(), 1);
        Due.tell(x, "cloth d;");
        is("5 a text without one", x.fault(), 0);
    }

    private static void promise6() {
        RowsColumns x = Due.told("cloth dldl dldl dddd; pattern llll llll llll; day row 1; day row 2;");
        is("6 high", x.rule(0), 3);
        is("6 wide", x.rule(1), 4);
        is("6 pattern", x.rule(2), 1);
        is("6 days", x.rule(3), 2);
        is("6 slants", x.rule(4), 6);
        is("6 above", x.rule(5), BAD);
        is("6 below", x.rule(-1), BAD);
        is("6 least", x.rule(Integer.MIN_VALUE), BAD);
        is("6 slants of 1 by 1", Due.told("cloth d;").rule(4), 1);
    }

    private static void promise7() {
        RowsColumns x = Due.told("day row 3; day column 2 slant 6 row 0; day slant 0 slant 1;");
        is("7 acts", x.day(0, -1), 1);
        is("7 acts", x.day(1, -1), 3);
        is("7 acts", x.day(2, -1), 2);
        is("7 row", x.day(0, 0), 3);
        is("7 column", x.day(1, 0), 22);
        is("7 slant", x.day(1, 1), 46);
        is("7 row 0", x.day(1, 2), 0);
        is("7 slant", x.day(2, 1), 41);
        is("7 no act", x.day(0, 1), BAD);
        is("7 no act", x.day(1, 3), BAD);
        is("7 below", x.day(1, -2), BAD);
        is("7 no day", x.day(3, -1), BAD);
        is("7 no day", x.day(3, 0), BAD);
        is("7 no day", x.day(-1, 0), BAD);
        is("7 most", x.day(Integer.MAX_VALUE, Integer.MAX_VALUE), BAD);
        is("7 none at first", new RowsColumns().day(0, -1), BAD);
    }

    private static void promise7full() {
        StringBuilder text = new StringBuilder();
        for (int d = 0; d < 12; d++) {
            text.append("day row").append(d % 4).append("column").append((d + 1) % 4);
            text.append("slant").append(d % 7).append(';');
        }
        RowsColumns x = Due.told(text.toString());
        is("7 days", x.rule(3), 12);
        for (int d = 0; d < 12; d++) {
            is("7 acts of " + d, x.day(d, -1), 3);
            is("7 row of " + d, x.day(d, 0), d % 4);
            is("7 column of " + d, x.day(d, 1), 20 + (d + 1) % 4);
            is("7 slant of " + d, x.day(d, 2), 40 + d % 7);
        }
        is("7 no 13th day", x.day(12, 0), BAD);
    }

    public static void main(String[] args) {
        promise1();
        promise2();
        promise3();
        promise4();
        promise4tells();
        promise5();
        promise6();
        promise7();
        promise7full();
        DUE.close();
    }
}
