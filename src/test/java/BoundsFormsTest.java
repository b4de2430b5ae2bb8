/**
 * Promises 15 to 27: each sentence that names a bound has a test of its own, for every size of a cloth where the
 * size is the bound. Every private method here is run.
 */
public final class BoundsFormsTest {
    private static final int BAD = -1, STATE = -2, NONE = -4;
    private static final int LEAST = Integer.MIN_VALUE, MOST = Integer.MAX_VALUE;
    private static final int[] FAR = {LEAST, MOST, -9, 9, 64, 256, -256, 1 << 16, 1 << 28, 1 << 30};
    private static final Due DUE = new Due("BoundsFormsTest");

    private BoundsFormsTest() {
    }

    private static void is(String call, long got, long want) {
        DUE.is(call, got, want);
    }

    private static long last(int high, int wide) {
        return 1L << 8 * (high - 1) + wide - 1;
    }

    // ---- form, forms, alike

    private static void formIsOf0And1() {
        RowsColumns x = Due.wished(2, 2, 1, 3);
        is("the cloth's", x.form(0), Due.set("ll", "ld"));
        is("the pattern's", x.form(1), 0);
    }

    private static void formOfAnythingElseIsBad() {
        RowsColumns x = Due.wished(2, 2, 1, 3);
        is("2", x.form(2), BAD);
        is("-1", x.form(-1), BAD);
        for (int of : FAR) {
            is("" + of, x.form(of), BAD);
        }
    }

    private static void formOfNoPatternIsBad() {
        RowsColumns x = new RowsColumns();
        is("at first", x.form(1), BAD);
        Due.tell(x, "cloth d; pattern d;");
        is("there is one", x.form(1), 0);
        Due.tell(x, "cloth d;");
        is("it is gone", x.form(1), BAD);
    }

    private static void inAFormRow0AndColumn0AreLight() {
        Due.everySize((high, wide) -> {
            RowsColumns x = Due.wished(high, wide, Due.some(high, wide), Due.all(high, wide) ^ Due.some(high, wide));
            long border = 0xFFL | 0x0101010101010101L | ~Due.all(high, wide);
            is("of " + high + wide, x.form(0) & border, 0);
            is("of the pattern " + high + wide, x.form(1) & border, 0);
        });
    }

    private static void aSetBecomesItsForm() {
        Due.everySize((high, wide) -> {
            RowsColumns x = Due.cloth(high, wide, Due.some(high, wide));
            is("of " + high + wide, Due.wished(high, wide, Due.some(high, wide), x.form(0)).nearest(0), 0);
            is("the cloth is as it was " + high + wide, x.cloth(0), Due.some(high, wide));
        });
    }

    private static void whatHasALightRow0AndColumn0IsItsOwnForm() {
        Due.everySize((high, wide) -> {
            long set = Due.some(high, wide) & ~0xFFL & ~0x0101010101010101L;
            is("of " + high + wide, Due.cloth(high, wide, set).form(0), set);
        });
    }

    private static void aFormIsAlikeForClothsThatBecomeOneAnother() {
        Due.everySize((high, wide) -> {
            RowsColumns x = Due.cloth(high, wide, Due.some(high, wide));
            long form = x.form(0);
            for (int i = 0; i < 12; i++) {
                x.turn(i * 37 & (1 << high) - 1, i * 91 & (1 << wide) - 1);
                is("of " + high + wide, x.form(0), form);
            }
        });
    }

    private static void aFormIsAnotherForClothsThatDoNot() {
        Due.everySize((high, wide) -> {
            RowsColumns x = Due.cloth(high, wide, Due.some(high, wide));
            long form = x.form(0);
            x.paint(high - 1, wide - 1, x.square(high - 1, wide - 1) == 0);
            is("of " + high + wide, x.form(0) == form ? 1 : 0, high == 1 || wide == 1 ? 1 : 0);
        });
    }

    private static void aFormMayHoldTheLastSquareOfAll() {
        is("it alone", Due.cloth(8, 8, Long.MIN_VALUE).form(0), Long.MIN_VALUE);
        is("what row 0 and column 0 leave", Due.cloth(8, 8, 1).form(0), Due.all(8, 8) & ~0xFFL & ~0x0101010101010101L);
    }

    private static void formsOfEverySize() {
        Due.everySize((high, wide) -> {
            long many = 1;
            for (int i = 0; i < (high - 1) * (wide - 1); i++) {
                many *= 2;
            }
            is("of " + high + wide, Due.cloth(high, wide, 0).forms(), many);
        });
    }

    private static void formsOfOneRowOrColumnAreOne() {
        is("1 by 1", Due.cloth(1, 1, 0).forms(), 1);
        is("1 by 8", Due.cloth(1, 8, 0).forms(), 1);
        is("8 by 1", Due.cloth(8, 1, 0).forms(), 1);
    }

    private static void formsOfTheGreatestSizeAreMoreThanAnInt() {
        is("8 by 8", Due.cloth(8, 8, 0).forms(), 562949953421312L);
    }

    private static void alikeIsOfAnImage() {
        RowsColumns x = new RowsColumns();
        x.keep(0);
        x.keep(1);
        is("0", x.alike(0), 1);
        is("1", x.alike(1), 1);
        is("2", x.alike(2), BAD);
        is("-1", x.alike(-1), BAD);
        for (int k : FAR) {
            is("" + k, x.alike(k), BAD);
        }
    }

    private static void alikeWithoutThatImage() {
        RowsColumns x = new RowsColumns();
        is("0", x.alike(0), STATE);
        is("1", x.alike(1), STATE);
        x.keep(1);
        is("the other one alone", x.alike(0), STATE);
        is("2 is BAD first", x.alike(2), BAD);
    }

    private static void alikeOfAnotherSizeIs0() {
        RowsColumns x = Due.cloth(3, 3, 0);
        x.keep(0);
        x.cut(0, 2, 0, 3);
        is("lower", x.alike(0), 0);
        x.back(0);
        x.cut(0, 3, 0, 2);
        is("narrower", x.alike(0), 0);
        x.keep(1);
        x.rotate(1);
        is("as many squares", x.alike(1), 0);
        x.rotate(1);
        is("turned back", x.alike(1), 1);
    }

    private static void alikeOfOneSquareUnlike() {
        Due.everySize((high, wide) -> {
            RowsColumns x = Due.cloth(high, wide, Due.some(high, wide));
            x.keep(0);
            x.turn((1 << high) - 1 & 0x55, (1 << wide) - 1 & 0x2b);
            is("turned " + high + wide, x.alike(0), 1);
            x.paint(0, 0, x.square(0, 0) == 0);
            is("one unlike " + high + wide, x.alike(0), high == 1 || wide == 1 ? 1 : 0);
        });
    }

    // ---- plan

    private static void plan(String of, RowsColumns x, int rows, int columns) {
        int r = Integer.bitCount(rows);
        int c = Integer.bitCount(columns);
        is("acts of " + of, x.plan(0), r + c);
        is("rows of " + of, x.plan(1), rows);
        is("columns of " + of, x.plan(2), columns);
        is("days of " + of, x.plan(3), Math.max(r, c));
    }

    private static void planIsOf0To3() {
        RowsColumns x = Due.wished(2, 2, 0, 3);
        is("3", x.plan(3), 1);
        is("4", x.plan(4), BAD);
        is("-1", x.plan(-1), BAD);
        for (int what : FAR) {
            is("" + what, x.plan(what), BAD);
        }
    }

    private static void planWithoutAPattern() {
        RowsColumns x = new RowsColumns();
        for (int what = 0; what < 4; what++) {
            is("" + what, x.plan(what), STATE);
        }
        is("4 is BAD first", x.plan(4), BAD);
    }

    private static void planThatThereIsNot() {
        RowsColumns x = Due.wished(2, 2, 0, 1);
        for (int what = 0; what < 4; what++) {
            is("" + what, x.plan(what), NONE);
        }
        is("4 is BAD first", x.plan(4), BAD);
    }

    private static void planOfNoActs() {
        Due.everySize((high, wide) ->
            plan("the same " + high + wide, Due.wished(high, wide, Due.some(high, wide), Due.some(high, wide)), 0, 0));
    }

    private static void planOfOneRow() {
        Due.everySize((high, wide) -> {
            RowsColumns x = Due.wished(high, wide, Due.some(high, wide), Due.some(high, wide));
            x.act(0, high - 1);
            boolean otherWay = high == 1 && wide == 1;
            plan("the last row " + high + wide, x, otherWay ? 0 : 1 << high - 1, otherWay ? 1 : 0);
        });
    }

    private static void planOfAllIsOfTheFewer() {
        Due.everySize((high, wide) -> {
            RowsColumns x = Due.wished(high, wide, Due.some(high, wide), Due.some(high, wide) ^ Due.all(high, wide));
            boolean rows = high < wide;
            plan("all " + high + wide, x, rows ? (1 << high) - 1 : 0, rows ? 0 : (1 << wide) - 1);
        });
    }

    /** Half of the rows, half of the columns: both ways have as many. */
    private static void planOfAsManyHasTheLesserRows() {
        Due.everySize((high, wide) -> {
            if ((high + wide) % 2 == 0) {
                int rows = (1 << high / 2) - 1;
                int columns = (1 << (wide + 1) / 2) - 1;
                RowsColumns x = Due.wished(high, wide, 0, 0);
                x.turn(rows, columns);
                plan("the lesser " + high + wide, x, rows, columns);
                x = Due.wished(high, wide, 0, 0);
                x.turn(rows ^ (1 << high) - 1, columns ^ (1 << wide) - 1);
                plan("the greater " + high + wide, x, rows, columns);
            }
        });
    }

    private static void planOfOneFewerHasTheGreaterRows() {
        RowsColumns x = Due.wished(3, 4, 0, 0);
        x.turn(6, 1);
        plan("three acts of seven", x, 6, 1);
        x.turn(0, 2);
        plan("four acts of seven", x, 1, 12);
    }

    private static void planOfTheGreatestCloth() {
        RowsColumns x = Due.wished(8, 8, 0, 0);
        x.turn(0xF0, 0xF0);
        plan("a half", x, 0x0F, 0x0F);
        x.turn(0, 0x0F);
        plan("a half, columns all", x, 0x0F, 0);
        x.turn(0x0F, 0x80);
        plan("the last column", x, 0, 0x80);
    }

    private static void planOfRowsAloneHasAsManyDays() {
        RowsColumns x = Due.wished(4, 4, 0, 0);
        x.turn(7, 0);
        plan("three rows", x, 7, 0);
        x = Due.wished(4, 4, 0, 0);
        x.turn(1, 6);
        plan("a row and two columns", x, 1, 6);
    }

    private static void planDoesNothing() {
        RowsColumns x = Due.wished(2, 2, 1, 2);
        x.plan(0);
        x.plan(3);
        is("cloth", x.cloth(0), 1);
        is("pattern", x.cloth(1), 2);
    }

    // ---- nearest, lightest

    private static void nearest(String of, RowsColumns x, int unlike, int rows, int columns) {
        is("unlike of " + of, x.nearest(0), unlike);
        is("rows of " + of, x.nearest(1), rows);
        is("columns of " + of, x.nearest(2), columns);
    }

    private static void nearestIsOf0To2() {
        RowsColumns x = Due.wished(2, 2, 0, Due.all(2, 2));
        is("2", x.nearest(2), 3);
        is("3", x.nearest(3), BAD);
        is("-1", x.nearest(-1), BAD);
        for (int what : FAR) {
            is("" + what, x.nearest(what), BAD);
        }
    }

    private static void nearestWithoutAPattern() {
        RowsColumns x = new RowsColumns();
        for (int what = 0; what < 3; what++) {
            is("" + what, x.nearest(what), STATE);
        }
        is("3 is BAD first", x.nearest(3), BAD);
    }

    private static void nearestThatIsThePattern() {
        Due.everySize((high, wide) ->
            nearest("the same " + high + wide, Due.wished(high, wide, Due.some(high, wide), Due.some(high, wide)), 0, 0, 0));
    }

    /** Not the fewest acts: the least rows first, so that all columns are turned even where rows are fewer. */
    private static void nearestHasTheLeastRows() {
        Due.everySize((high, wide) -> {
            RowsColumns x = Due.wished(high, wide, Due.some(high, wide), Due.some(high, wide) ^ Due.all(high, wide));
            nearest("all " + high + wide, x, 0, 0, (1 << wide) - 1);
        });
    }

    private static void nearestThenHasTheLeastColumns() {
        nearest("half of a column", Due.wished(2, 2, 0, 1), 1, 0, 0);
        nearest("half of two columns", Due.wished(4, 4, 0, Due.set("ddll", "ddll", "llll", "llll")), 4, 0, 0);
    }

    private static void nearestTurnsAColumnOfMoreThanAHalf() {
        nearest("3 of 4", Due.wished(4, 4, 0, Due.set("llld", "llld", "llld", "llll")), 1, 0, 8);
        nearest("2 of 3", Due.wished(3, 3, 0, Due.set("dll", "dll", "lll")), 1, 0, 1);
    }

    private static void nearestOfTheLastSquare() {
        Due.everySize((high, wide) -> {
            RowsColumns x = Due.wished(high, wide, 0, last(high, wide));
            if (high > 1 && wide > 1) {
                nearest("the last square " + high + wide, x, 1, 0, 0);
            } else if (wide > 1 || high == 1) {
                nearest("the last square " + high + wide, x, 0, 0, 1 << wide - 1);
            } else {
                int other = (1 << high - 1) - 1;
                nearest("the last square " + high + wide, x, 0, other, 1);
            }
        });
    }

    private static void nearestOfTheLastLine() {
        Due.everySize((high, wide) -> {
            RowsColumns x = Due.wished(high, wide, 0, 0);
            x.act(1, wide - 1);
            nearest("the last column " + high + wide, x, 0, 0, 1 << wide - 1);
        });
    }

    private static void nearestIsToThePatternAlone() {
        RowsColumns x = Due.wished(2, 2, Due.all(2, 2), Due.all(2, 2));
        nearest("both dark", x, 0, 0, 0);
        x.wish(0, 0, false);
        nearest("one unlike", x, 1, 0, 0);
    }

    private static void nearestIsOfTheClothThatThereIsNow() {
        RowsColumns x = Due.wished(3, 3, 0, 0);
        nearest("none", x, 0, 0, 0);
        x.turn(3, 0);
        nearest("two rows", x, 0, 3, 0);
        x.paint(2, 2, true);
        nearest("and a square", x, 1, 3, 0);
        x.turn(3, 0);
        nearest("a square", x, 1, 0, 0);
    }

    private static void lightestIsOf0To2() {
        RowsColumns x = Due.cloth(2, 2, Due.all(2, 2));
        is("0", x.lightest(0), 0);
        is("1", x.lightest(1), 0);
        is("2", x.lightest(2), 3);
        is("3", x.lightest(3), BAD);
        is("-1", x.lightest(-1), BAD);
        for (int what : FAR) {
            is("" + what, x.lightest(what), BAD);
        }
    }

    private static void lightestNeedsNoPatternAndAsksNone() {
        RowsColumns x = Due.wished(2, 2, Due.all(2, 2), Due.all(2, 2));
        is("columns", x.lightest(2), 3);
        is("none", new RowsColumns().lightest(0), 0);
    }

    private static void lightestOfALightAndADarkCloth() {
        Due.everySize((high, wide) -> {
            RowsColumns x = Due.cloth(high, wide, 0);
            is("light " + high + wide, x.lightest(0) + x.lightest(1) + x.lightest(2), 0);
            x = Due.cloth(high, wide, Due.all(high, wide));
            is("dark " + high + wide, x.lightest(0), 0);
            is("rows of dark " + high + wide, x.lightest(1), 0);
            is("columns of dark " + high + wide, x.lightest(2), (1 << wide) - 1);
        });
    }

    private static void lightestOfOneDarkSquare() {
        Due.everySize((high, wide) -> {
            RowsColumns x = Due.cloth(high, wide, last(high, wide));
            is("of " + high + wide, x.lightest(0), high > 1 && wide > 1 ? 1 : 0);
            is("it is as it was " + high + wide, x.cloth(0), last(high, wide));
        });
    }

    // ---- blind

    /** Told of what is unlike: the cloth is light. */
    private static void blind(int days, int unlike, String... rows) {
        RowsColumns x = Due.wished(rows.length, rows[0].length(), 0, Due.set(rows));
        is("days of " + String.join(" ", rows), x.blind(0), days);
        is("unlike of " + String.join(" ", rows), x.blind(1), unlike);
        is("it is as it was", x.cloth(0), 0);
    }

    private static void blindIsOf0And1() {
        RowsColumns x = Due.wished(1, 1, 0, 1);
        is("0", x.blind(0), NONE);
        is("1", x.blind(1), 1);
        is("2", x.blind(2), BAD);
        is("-1", x.blind(-1), BAD);
        for (int what : FAR) {
            is("" + what, x.blind(what), BAD);
        }
    }

    private static void blindWithoutAPattern() {
        RowsColumns x = new RowsColumns();
        is("0", x.blind(0), STATE);
        is("1", x.blind(1), STATE);
        is("2 is BAD first", x.blind(2), BAD);
    }

    private static void blindFor0Days() {
        Due.everySize((high, wide) -> {
            RowsColumns x = Due.wished(high, wide, Due.some(high, wide), Due.some(high, wide));
            is("days " + high + wide, x.blind(0), 0);
            is("unlike " + high + wide, x.blind(1), 0);
        });
    }

    private static void blindForManyDays() {
        String dark = "ddddddd";
        blind(8, 0, dark, dark, dark, dark, dark, dark, dark, dark);
        dark = "dddddddd";
        blind(8, 0, dark, dark, dark, dark, dark, dark, dark);
    }

    private static void blindAHalfOfARowIsNotEnough() {
        blind(NONE, 2, "ddll", "llll", "llll", "llll");
        blind(NONE, 1, "dll", "lll", "lll");
    }

    private static void blindMoreThanAHalfOfARowIsEnough() {
        blind(NONE, 1, "dddl", "llll", "llll", "llll");
        blind(NONE, 1, "ddl", "lll", "lll");
        blind(1, 0, "dddd", "llll", "llll", "llll");
    }

    private static void blindAHalfOfAColumnIsNotEnough() {
        blind(NONE, 2, "dlll", "dlll", "llll", "llll");
        blind(NONE, 1, "lll", "lll", "lld");
    }

    private static void blindMoreThanAHalfOfAColumnIsEnough() {
        blind(NONE, 1, "dlll", "dlll", "dlll", "llll");
        blind(NONE, 1, "lld", "lld", "lll");
        blind(1, 0, "llld", "llld", "llld", "llld");
    }

    private static void blindTheLastRowAndColumn() {
        blind(1, 0, "lll", "lll", "ddd");
        blind(1, 0, "lld", "lld", "lld");
    }

    /** Both turn the square where they meet: it stays as it is. */
    private static void blindBothAtOnce() {
        blind(NONE, 1, "d");
        blind(2, 0, "dd");
        blind(2, 0, "d", "d");
        blind(1, 0, "ldd", "dll", "dll");
    }

    /** Of one row a column of its own square is all; the row's half is not enough. */
    private static void blindOneOfTwoAlone() {
        blind(1, 0, "dl");
        blind(1, 0, "l", "d");
    }

    private static void blindTheRowOfTheMost() {
        blind(NONE, 2, "ddl", "ddd");
        blind(NONE, 2, "ldd", "ddd");
    }

    private static void blindTheColumnOfTheMost() {
        blind(NONE, 2, "dd", "dd", "ld");
    }

    private static void blindTheLeastRowOfSeveral() {
        blind(NONE, 5, "ddl", "dld", "ldl");
        blind(NONE, 1, "dld", "ldl", "ddl");
    }

    private static void blindTheLeastColumnOfSeveral() {
        blind(NONE, 1, "ddd", "ldd", "dll");
        blind(NONE, 1, "ldd", "ddd", "dll");
    }

    private static void blindIsOfWhatIsUnlike() {
        RowsColumns x = Due.wished(3, 3, Due.all(3, 3), Due.set("ddd", "lll", "ddd"));
        is("a row unlike among dark ones", x.blind(0), 1);
        x = Due.wished(3, 3, Due.all(3, 3), Due.all(3, 3));
        is("dark and dark", x.blind(0), 0);
    }

    // ---- slanted

    private static void slanted(String of, RowsColumns x, int rows, int columns, int slants) {
        is("acts of " + of, x.slanted(0), Integer.bitCount(rows) + Integer.bitCount(columns) + Integer.bitCount(slants));
        is("rows of " + of, x.slanted(1), rows);
        is("columns of " + of, x.slanted(2), columns);
        is("slants of " + of, x.slanted(3), slants);
    }

    private static void slantedIsOf0To3() {
        RowsColumns x = Due.wished(2, 2, 0, 1);
        is("3", x.slanted(3), 1);
        is("4", x.slanted(4), BAD);
        is("-1", x.slanted(-1), BAD);
        for (int what : FAR) {
            is("" + what, x.slanted(what), BAD);
        }
    }

    private static void slantedWithoutAPattern() {
        RowsColumns x = new RowsColumns();
        for (int what = 0; what < 4; what++) {
            is("" + what, x.slanted(what), STATE);
        }
        is("4 is BAD first", x.slanted(4), BAD);
    }

    private static void slantedOf10TogetherAtMost() {
        Due.everySize((high, wide) -> {
            RowsColumns x = Due.wished(high, wide, Due.some(high, wide), Due.some(high, wide));
            for (int what = 0; what < 4; what++) {
                is("slanted(" + what + ") of " + high + wide, x.slanted(what), high + wide > 10 ? STATE : 0);
            }
            is("slanted(4) of " + high + wide, x.slanted(4), BAD);
        });
    }

    /** The last square is the last slant; a column that is as good has greater bits of the columns. */
    private static void slantedTheLastSlant() {
        Due.everySize((high, wide) -> {
            if (high + wide <= 10) {
                RowsColumns x = Due.wished(high, wide, 0, last(high, wide));
                slanted("the last square " + high + wide, x, 0, 0, 1 << high + wide - 2);
            }
        });
    }

    private static void slantedTheFirstSlant() {
        Due.everySize((high, wide) -> {
            if (high + wide <= 10) {
                slanted("the first square " + high + wide, Due.wished(high, wide, 0, 1), 0, 0, 1);
            }
        });
    }

    private static void slantedThatCanNotBe() {
        RowsColumns x = Due.wished(4, 4, 0, 2);
        for (int what = 0; what < 4; what++) {
            is("" + what, x.slanted(what), NONE);
        }
        is("4 is BAD first", x.slanted(4), BAD);
    }

    private static void slantedTheFewestAheadOfTheLeast() {
        slanted("a row", Due.wished(3, 3, 0, 7), 1, 0, 0);
        slanted("two rows and a column", Due.wished(5, 5, 0, Due.set("ddddl", "lllld", "lllld", "lllld", "ddddl")), 17, 16, 0);
    }

    private static void slantedTheLeastRowsThenColumns() {
        slanted("all", Due.wished(3, 3, 0, Due.all(3, 3)), 0, 7, 0);
        slanted("one row of two is a slant, too", Due.wished(1, 2, 0, 2), 0, 0, 2);
        slanted("a square is all three", Due.wished(1, 1, 0, 1), 0, 0, 1);
        slanted("both squares of a column", Due.wished(2, 1, 0, 257), 0, 1, 0);
        slanted("both squares of a row", Due.wished(1, 2, 0, 3), 1, 0, 0);
    }

    private static void slantedIsOfWhatIsUnlike() {
        slanted("dark and dark", Due.wished(3, 3, Due.all(3, 3), Due.all(3, 3)), 0, 0, 0);
        slanted("one of them", Due.wished(3, 3, Due.all(3, 3), Due.all(3, 3) - 1), 0, 0, 1);
    }

    private static void slantedIsOfTheClothThatThereIsNow() {
        RowsColumns x = Due.wished(3, 3, 0, 1);
        slanted("first", x, 0, 0, 1);
        x.paint(0, 0, true);
        slanted("none", x, 0, 0, 0);
        x.turn(1, 2);
        slanted("a row and a column", x, 1, 2, 0);
    }

    // ---- power

    /** With slants three ways are double: all rows, all columns, all slants; and every second one of each. */
    private static void powerOfEverySize() {
        Due.everySize((high, wide) -> {
            RowsColumns x = Due.cloth(high, wide, Due.some(high, wide));
            is("rows, columns of " + high + wide, x.power(0), high + wide - 1);
            boolean line = high == 1 || wide == 1;
            is("with slants of " + high + wide, x.power(1), line ? high * wide : 2 * (high + wide) - 4);
        });
    }

    private static void powerIsOf0And1() {
        RowsColumns x = new RowsColumns();
        is("2", x.power(2), BAD);
        is("-1", x.power(-1), BAD);
        for (int what : FAR) {
            is("" + what, x.power(what), BAD);
        }
    }

    // ---- duel

    private static void duel(RowsColumns x, int n, boolean she, int end, int move) {
        is("end of " + n + " turns, she first " + she, x.duel(n, she, 0), end);
        is("move of " + n + " turns, she first " + she, x.duel(n, she, 1), move);
    }

    private static void aDuelHas1To4Turns() {
        RowsColumns x = Due.cloth(1, 1, 0);
        is("0", x.duel(0, true, 0), BAD);
        is("1", x.duel(1, true, 0), 1);
        is("4", x.duel(4, true, 0), 0);
        is("5", x.duel(5, true, 0), BAD);
        is("-1", x.duel(-1, true, 0), BAD);
        for (int n : FAR) {
            is("" + n, x.duel(n, true, 0), BAD);
            is("he first " + n, x.duel(n, false, 1), BAD);
        }
    }

    private static void duelIsOf0And1() {
        RowsColumns x = Due.cloth(2, 2, 0);
        is("2", x.duel(1, true, 2), BAD);
        is("-1", x.duel(1, true, -1), BAD);
        for (int what : FAR) {
            is("" + what, x.duel(1, false, what), BAD);
        }
    }

    /** On one square the last one has it as he likes; all moves are as good for the first one then. */
    private static void aDuelOfOneSquareIsTheLastOnes() {
        for (int dark = 0; dark < 2; dark++) {
            for (int n = 2; n <= 4; n++) {
                RowsColumns x = Due.cloth(1, 1, dark);
                duel(x, n, true, n % 2, 0);
                duel(x, n, false, 1 - n % 2, 0);
            }
        }
    }

    private static void aDuelsFirstMoveMayBeNone() {
        duel(Due.cloth(1, 1, 1), 1, true, 1, 8);
        duel(Due.cloth(1, 1, 0), 1, false, 0, 8);
        duel(Due.cloth(8, 8, -1), 1, true, 64, 8);
        duel(Due.cloth(8, 8, 0), 1, false, 0, 8);
        duel(Due.cloth(8, 8, 0), 2, false, 8, 8);
    }

    private static void aDuelsFirstMoveIsTheFirstSuch() {
        duel(Due.cloth(8, 8, 0), 1, true, 8, 0);
        duel(Due.cloth(8, 8, -1), 1, false, 56, 0);
        duel(Due.cloth(3, 2, Due.set("dd", "dl", "ll")), 1, true, 5, 2);
        duel(Due.cloth(3, 2, Due.set("dl", "ld", "dl")), 1, true, 3, 0);
        duel(Due.cloth(2, 3, Due.set("ldd", "ldd")), 1, false, 2, 1);
    }

    private static void aDuelsFirstMoveMayBeTheLast() {
        duel(Due.cloth(8, 8, Due.all(7, 8)), 1, true, 64, 7);
        duel(Due.cloth(8, 8, 0x8080808080808080L), 1, false, 0, 7);
    }

    private static void aDuelsMovesAreByTurns() {
        duel(Due.cloth(8, 8, 0), 2, true, 8, 0);
        duel(Due.cloth(8, 8, 0), 3, true, 16, 0);
        duel(Due.cloth(8, 8, 0), 4, true, 16, 0);
        duel(Due.cloth(8, 8, 0), 3, false, 8, 0);
        duel(Due.cloth(2, 1, 257), 2, false, 1, 0);
    }

    private static void aDuelDoesNothing() {
        RowsColumns x = Due.cloth(3, 3, 5);
        x.duel(4, false, 1);
        is("cloth", x.cloth(0), 5);
    }

    // ---- turned

    private static void turned(String of, RowsColumns x, int acts, int rows, int columns) {
        is("acts of " + of, x.turned(0, 0), acts);
        is("rows of " + of, x.turned(0, 1), rows);
        is("columns of " + of, x.turned(0, 2), columns);
    }

    private static void turnedIsOfAnImageAnd0To2() {
        RowsColumns x = new RowsColumns();
        x.keep(0);
        x.keep(1);
        x.act(1, 3);
        is("image 0", x.turned(0, 2), 8);
        is("image 1", x.turned(1, 2), 8);
        is("image 2", x.turned(2, 0), BAD);
        is("image -1", x.turned(-1, 0), BAD);
        is("3", x.turned(0, 3), BAD);
        is("-1", x.turned(1, -1), BAD);
        for (int far : FAR) {
            is("image " + far, x.turned(far, 0), BAD);
            is("what " + far, x.turned(0, far), BAD);
        }
    }

    private static void turnedWithoutThatImage() {
        RowsColumns x = new RowsColumns();
        x.keep(1);
        for (int what = 0; what < 3; what++) {
            is("" + what, x.turned(0, what), STATE);
        }
        is("3 is BAD first", x.turned(0, 3), BAD);
    }

    private static void turnedOfAnotherSize() {
        RowsColumns x = Due.cloth(3, 2, 0);
        x.keep(0);
        x.cut(0, 2, 0, 2);
        is("higher", x.turned(0, 0), STATE);
        x.back(0);
        x.cut(0, 3, 0, 1);
        is("wider", x.turned(0, 0), STATE);
        x.back(0);
        x.rotate(1);
        is("as many squares", x.turned(0, 0), STATE);
        is("3 is BAD first", x.turned(0, 3), BAD);
    }

    private static void turnedThatThereIsNot() {
        RowsColumns x = Due.cloth(2, 2, 0);
        x.keep(0);
        x.paint(1, 1, true);
        for (int what = 0; what < 3; what++) {
            is("" + what, x.turned(0, what), NONE);
        }
    }

    private static void turnedTheFewerOfBoth() {
        Due.everySize((high, wide) -> {
            RowsColumns x = Due.cloth(high, wide, Due.some(high, wide));
            x.keep(0);
            turned("none " + high + wide, x, 0, 0, 0);
            x.turn((1 << high) - 1, 0);
            boolean rows = high < wide;
            turned("all " + high + wide, x, Math.min(high, wide), rows ? (1 << high) - 1 : 0, rows ? 0 : (1 << wide) - 1);
        });
    }

    private static void turnedAsksNoPattern() {
        RowsColumns x = Due.wished(2, 2, 0, 1);
        x.keep(0);
        x.act(0, 1);
        turned("a row", x, 1, 2, 0);
    }

    // ---- spoilt, both

    private static void spoiltIsOf0And1() {
        RowsColumns x = Due.wished(3, 3, 0, 1);
        is("0", x.spoilt(0), 1);
        is("1", x.spoilt(1), 0);
        is("2", x.spoilt(2), BAD);
        is("-1", x.spoilt(-1), BAD);
        for (int what : FAR) {
            is("" + what, x.spoilt(what), BAD);
        }
    }

    private static void spoiltWithoutAPattern() {
        RowsColumns x = new RowsColumns();
        is("0", x.spoilt(0), STATE);
        is("1", x.spoilt(1), STATE);
        is("2 is BAD first", x.spoilt(2), BAD);
    }

    private static void spoiltByNone() {
        RowsColumns x = Due.wished(3, 3, 5, 5);
        is("0", x.spoilt(0), 0);
        is("1", x.spoilt(1), NONE);
    }

    /** How many squares of a column (row) are one another's when it has two alone, and the first of them. */
    private static void spoiltOfEverySize() {
        Due.everySize((high, wide) -> {
            RowsColumns x = Due.wished(high, wide, Due.some(high, wide), Due.some(high, wide) ^ last(high, wide));
            x.turn(1, (1 << wide) - 1);
            boolean line = high == 1 || wide == 1;
            int many = line ? high * wide : (high == 2 ? 2 : 1) * (wide == 2 ? 2 : 1);
            int firstRow = line || high == 2 ? 0 : high - 1;
            int firstColumn = line || wide == 2 ? 0 : wide - 1;
            is("how many of " + high + wide, x.spoilt(0), many);
            is("the first of " + high + wide, x.spoilt(1), 8 * firstRow + firstColumn);
        });
    }

    private static void spoiltEverySquareOfTheGreatest() {
        for (int s = 0; s < 64; s++) {
            RowsColumns x = Due.wished(8, 8, Due.SOME, Due.SOME ^ 1L << s);
            is("how many of " + s, x.spoilt(0), 1);
            is("the first of " + s, x.spoilt(1), s);
        }
    }

    private static void spoiltIsOfWhatIsUnlike() {
        RowsColumns x = Due.wished(3, 3, Due.all(3, 3), Due.all(3, 3) - 1);
        is("0", x.spoilt(0), 1);
        is("1", x.spoilt(1), 0);
    }

    private static void spoiltDoesNothing() {
        RowsColumns x = Due.wished(3, 3, 5, 1);
        x.spoilt(1);
        x.both(1);
        is("cloth", x.cloth(0), 5);
        is("pattern", x.cloth(1), 1);
    }

    private static void bothIsOf0And1() {
        RowsColumns x = Due.wished(3, 3, 0, 3);
        is("0", x.both(0) > 0 ? 1 : 0, 1);
        is("1", x.both(1), 1);
        is("2", x.both(2), BAD);
        is("-1", x.both(-1), BAD);
        for (int what : FAR) {
            is("" + what, x.both(what), BAD);
        }
    }

    private static void bothWithoutAPattern() {
        RowsColumns x = new RowsColumns();
        is("0", x.both(0), STATE);
        is("1", x.both(1), STATE);
        is("2 is BAD first", x.both(2), BAD);
    }

    private static void bothAreTwoUnlikeSquares() {
        RowsColumns x = Due.wished(1, 1, 0, 0);
        is("of one square alone", x.both(0), 0);
        is("of one square alone", x.both(1), NONE);
        x = Due.wished(4, 4, 0, 0);
        is("none of it twice", x.both(0), 0);
        is("none of it twice", x.both(1), NONE);
    }

    /** The cloth is the pattern: pairs that are a line of two, or lie in one line that is the whole cloth. */
    private static void bothOfEverySize() {
        Due.everySize((high, wide) -> {
            RowsColumns x = Due.wished(high, wide, Due.some(high, wide), Due.some(high, wide));
            int squares = high * wide;
            boolean any = high == 1 || wide == 1 || high == 2 && wide == 2;
            int many = any ? squares * (squares - 1) / 2 : high == 2 ? wide : wide == 2 ? high : 0;
            boolean beside = wide == 2 || high == 1;
            is("how many of " + high + wide, x.both(0), many);
            is("the first of " + high + wide, x.both(1), many == 0 ? NONE : beside ? 1 : 8);
        });
    }

    private static void bothEveryPairOfTheGreatest() {
        for (int s = 0; s < 64; s += 7) {
            for (int t = s + 1; t < 64; t += 3) {
                RowsColumns x = Due.wished(8, 8, Due.SOME, Due.SOME ^ 1L << s ^ 1L << t);
                is("how many of " + s + " " + t, x.both(0), 1);
                is("the first of " + s + " " + t, x.both(1), 64 * s + t);
            }
        }
    }

    private static void bothOneByItselfIsNone() {
        RowsColumns x = Due.wished(8, 8, 0, Long.MIN_VALUE);
        is("0", x.both(0), 0);
        is("1", x.both(1), NONE);
    }

    private static void bothAreTheLastTwo() {
        RowsColumns x = Due.wished(8, 8, 0, 3L << 62);
        is("0", x.both(0), 1);
        is("1", x.both(1), 64 * 62 + 63);
    }

    public static void main(String[] args) {
        DUE.every(BoundsFormsTest.class);
        DUE.close();
    }
}
