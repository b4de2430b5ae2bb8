/** Promises 28 to 34: cloths turned, cut, sewn, their name; images. */
public final class ShapesTest {
    private static final int BAD = -1, STATE = -2, FULL = -3;
    private static final int LEAST = Integer.MIN_VALUE, MOST = Integer.MAX_VALUE;
    private static final Due DUE = new Due("ShapesTest");

    private static void is(String call, long got, long want) {
        DUE.is(call, got, want);
    }

    private static void rotated(int t, String... rows) {
        RowsColumns x = Due.told("cloth ddl dll; pattern ddl dll; day row 1;");
        x.wish(1, 2, true);
        x.paint(1, 1, true);
        x.wish(1, 1, true);
        x.paint(1, 2, true);
        is("28 rows " + t, x.rotate(t), rows.length);
        is("28 high " + t, x.rule(0), rows.length);
        is("28 wide " + t, x.rule(1), rows[0].length());
        is("28 cloth " + t, x.cloth(0), Due.set(rows));
        is("28 pattern " + t, x.cloth(1), Due.set(rows));
        is("28 has a pattern " + t, x.rule(2), 1);
        is("28 days " + t, x.rule(3), 0);
        is("28 day " + t, x.day(0, 0), BAD);
    }

    private static void promise28() {
        rotated(0, "ddl", "ddd");
        rotated(1, "dd", "dd", "dl");
        rotated(2, "ddd", "ldd");
        rotated(3, "ld", "dd", "dd");
        rotated(4, "ldd", "ddd");
        rotated(5, "dl", "dd", "dd");
        rotated(6, "ddd", "ddl");
        rotated(7, "dd", "dd", "ld");
        RowsColumns x = Due.told("cloth dl; day row 0;");
        is("28 above", x.rotate(8), BAD);
        is("28 below", x.rotate(-1), BAD);
        is("28 least", x.rotate(LEAST), BAD);
        is("28 nothing is changed", x.rule(3), 1);
        is("28 nothing is changed", x.rule(1), 2);
        is("28 without a pattern", x.rotate(1), 2);
        is("28 without a pattern", x.rule(2), 0);
        is("28 images stay", x.keep(0), 0);
        x.rotate(3);
        is("28 images stay", x.count(3), 1);
    }

    private static RowsColumns toCut() {
        return Due.told("cloth dlld lddl dddl; pattern llll llll llll; day row 0;");
    }

    private static void cut(int r, int rows, int c, int columns, String... left) {
        RowsColumns x = toCut();
        String call = r + "," + rows + "," + c + "," + columns;
        is("29 dark " + call, x.cut(r, rows, c, columns), Long.bitCount(Due.set(left)));
        is("29 cloth " + call, x.cloth(0), Due.set(left));
        is("29 high " + call, x.rule(0), rows);
        is("29 wide " + call, x.rule(1), columns);
        is("29 pattern " + call, x.rule(2), 0);
        is("29 days " + call, x.rule(3), 0);
    }

    private static void promise29() {
        cut(0, 3, 0, 4, "dlld", "lddl", "dddl");
        cut(1, 2, 0, 4, "lddl", "dddl");
        cut(0, 2, 1, 2, "ll", "dd");
        cut(2, 1, 2, 2, "dl");
        cut(1, 1, 3, 1, "l");
        cut(0, 1, 3, 1, "d");
        cut(1, 2, 1, 3, "ddl", "ddl");
        RowsColumns x = toCut();
        int[][] wrong = {{-1, 1, 0, 1}, {3, 1, 0, 1}, {0, 0, 0, 1}, {0, 4, 0, 1}, {1, 3, 0, 1}, {0, -1, 0, 1},
            {0, 1, -1, 1}, {0, 1, 4, 1}, {0, 1, 0, 0}, {0, 1, 0, 5}, {0, 1, 2, 3}, {0, 1, 0, -1},
            {1, MOST, 0, 1}, {0, 1, 1, MOST}, {LEAST, LEAST, 0, 1}, {MOST, MOST, MOST, MOST}};
        for (int[] w : wrong) {
            is("29 wrong", x.cut(w[0], w[1], w[2], w[3]), BAD);
        }
        is("29 nothing is changed", x.rule(2) + x.rule(3), 2);
        is("29 nothing is changed", x.cloth(0), toCut().cloth(0));
        String[] eight = {"dldldldl", "ldldldld", "dldldldl", "ldldldld", "dldldldl", "ldldldld", "dldldldl", "dddddddl"};
        x = Due.told("cloth " + String.join(" ", eight) + ";");
        is("29 the last of eight", x.cut(7, 1, 6, 2), 1);
        is("29 the last of eight", x.cloth(0), 1);
    }

    private static void promise30() {
        RowsColumns x = Due.told("cloth dl ld dd; pattern dl ld dd; day row 0;");
        is("30 no image", x.sew(0, false), STATE);
        is("30 above", x.sew(2, false), BAD);
        is("30 below", x.sew(-1, true), BAD);
        x.keep(0);
        x.act(0, 0);
        is("30 nothing is changed", x.rule(2) + x.rule(3), 2);
        is("30 right", x.sew(0, false), 8);
        is("30 right", x.cloth(0), Due.set("lddl", "ldld", "dddd"));
        is("30 right", x.rule(0) * 10 + x.rule(1), 34);
        is("30 pattern, days", x.rule(2) + x.rule(3), 0);
        is("30 not as wide", x.sew(0, true), STATE);
        is("30 right once more", x.sew(0, false), 12);
        is("30 right once more", x.sew(0, false), 16);
        is("30 eight wide", x.cloth(0), Due.set("lddldldl", "ldldldld", "dddddddd"));
        is("30 more than eight", x.sew(0, false), FULL);
        is("30 nothing is changed", x.cloth(0), Due.set("lddldldl", "ldldldld", "dddddddd"));
        is("30 not as wide is told ahead", x.sew(0, true), STATE);
        x.back(0);
        is("30 below", x.sew(0, true), 8);
        is("30 below", x.cloth(0), Due.set("dl", "ld", "dd", "dl", "ld", "dd"));
        is("30 more than eight", x.sew(0, true), FULL);
        is("30 not as high", x.sew(0, false), STATE);
        x.cut(0, 1, 0, 2);
        x.keep(1);
        x.back(0);
        is("30 one row", x.sew(1, true), 5);
        is("30 one row", x.cloth(0), Due.set("dl", "ld", "dd", "dl"));
        x = Due.told("cloth d l l l l l l;");
        x.keep(0);
        x.cut(0, 1, 0, 1);
        is("30 eight high", x.sew(0, true), 2);
        is("30 eight high", x.cloth(0), 257);
        is("30 eight high", x.rule(0), 8);
        x.keep(1);
        is("30 two eight high", x.sew(1, false), 4);
        is("30 two eight high", x.cloth(0), 3 + 768);
    }

    private static void name(String text, long form, int turning) {
        RowsColumns x = Due.told(text);
        is("31 form: " + text, x.name(0), form);
        is("31 turning: " + text, x.name(1), turning);
        is("31 the cloth is as it was", x.cloth(0), Due.told(text).cloth(0));
        is("31 above", x.name(2), BAD);
        is("31 below", x.name(-1), BAD);
    }

    private static void promise31() {
        name("cloth d;", 0, 0);
        name("cloth dl;", 0, 0);
        name("cloth d l;", 0, 1);
        name("cloth dll lll;", Due.set("lll", "lld"), 2);
        name("cloth lll ldl;", Due.set("lll", "ldl"), 0);
        name("cloth ll ll ld;", Due.set("lll", "lld"), 3);
        name("cloth ll ld ll;", Due.set("lll", "ldl"), 1);
        name("cloth lll lll lld;", Due.set("lll", "lll", "lld"), 0);
        name("cloth dll lll lll;", Due.set("lll", "lll", "lld"), 2);
        name("cloth lll lld lll;", Due.set("lll", "lld"), 0);
        name("cloth lll lll ldl;", Due.set("lll", "lld"), 3);
        String seven = "llllllll llllllll llllllll llllllll llllllll llllllll llllllll ";
        name("cloth " + seven + "llllllld;", Long.MIN_VALUE, 0);
        name("cloth d" + seven.substring(1) + "llllllll;", Long.MIN_VALUE, 2);
    }

    private static void promise32() {
        RowsColumns x = Due.told("cloth dll ldl;");
        is("32 no image", x.cousin(0), STATE);
        is("32 above", x.cousin(2), BAD);
        is("32 below", x.cousin(-1), BAD);
        x.keep(0);
        is("32 itself", x.cousin(0), 1);
        for (int t = 0; t < 8; t++) {
            x.rotate(t);
            x.act(0, 1);
            x.act(1, 0);
            is("32 turned " + t, x.cousin(0), 1);
        }
        x.paint(0, 0, x.square(0, 0) == 0);
        is("32 painted", x.cousin(0), 0);
        is("32 no other image", x.cousin(1), STATE);
        x = Due.told("cloth dll ddd;");
        x.cut(0, 1, 0, 3);
        x.keep(0);
        x.cut(0, 1, 0, 2);
        is("32 one form, another size", x.cousin(0), 0);
        x = Due.told("cloth llllll;");
        x.keep(0);
        Due.tell(x, "cloth lll lll;");
        x.keep(0);
        x.cut(0, 1, 0, 3);
        x.sew(1, false);
        is("32 as many columns", x.cousin(0), 0);
    }

    private static void promise33() {
        RowsColumns x = Due.told("cloth dl ld dd;");
        is("33 none was there", x.keep(0), 0);
        is("33 one was there", x.keep(0), 1);
        is("33 another", x.keep(1), 0);
        is("33 above", x.keep(2), BAD);
        is("33 below", x.keep(-1), BAD);
        is("33 images", x.count(3), 2);
        x.act(0, 0);
        x.rotate(1);
        is("33 the second has a size", x.keep(1), 1);
        x.back(0);
        is("33 the first is as it was", x.cloth(0), Due.set("dl", "ld", "dd"));
        is("33 the first is as it was", x.rule(0), 3);
        x.back(1);
        is("33 the second", x.cloth(0), Due.set("dll", "ddd"));
        is("33 the second", x.rule(0), 2);
        is("33 the second", x.rule(1), 3);
        Due.tell(x, "");
        is("33 gone with a text", x.keep(0), 0);
    }

    private static void promise34() {
        RowsColumns x = Due.told("cloth dl ld dd; pattern dd dd dd; day row 0;");
        is("34 none", x.back(0), STATE);
        is("34 above", x.back(2), BAD);
        is("34 below", x.back(-1), BAD);
        x.keep(0);
        x.turn(7, 0);
        is("34 dark", x.back(0), 4);
        is("34 cloth", x.cloth(0), Due.set("dl", "ld", "dd"));
        is("34 the pattern stays", x.rule(2), 1);
        is("34 the pattern stays", x.cloth(1), Due.set("dd", "dd", "dd"));
        is("34 the days stay", x.rule(3), 1);
        is("34 the other", x.back(1), STATE);
        x.rotate(1);
        is("34 the pattern is turned", x.rule(2), 1);
        is("34 another size", x.back(0), 4);
        is("34 another size: no pattern", x.rule(2), 0);
        is("34 another size: no pattern", x.cloth(1), 0);
        is("34 another size", x.rule(0) * 10 + x.rule(1), 32);
        x = Due.told("cloth dl ld dd; pattern dd dd dd; day row 0; day row 1;");
        x.keep(1);
        x.cut(0, 1, 0, 2);
        x.keep(0);
        x.back(1);
        is("34 the image stays", x.back(1), 4);
        is("34 the image stays", x.count(3), 2);
        is("34 one wide alone is another", x.back(0), 1);
        is("34 one wide alone is another", x.rule(0), 1);
        x = Due.told("cloth dd dd;");
        x.keep(0);
        x.cut(0, 1, 0, 2);
        x.keep(1);
        is("34 days of a text go", x.back(0), 4);
    }

    public static void main(String[] args) {
        promise28();
        promise29();
        promise30();
        promise31();
        promise32();
        promise33();
        promise34();
        DUE.close();
    }
}
