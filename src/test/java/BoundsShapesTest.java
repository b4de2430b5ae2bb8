/**
 * Promises 28 to 34: each sentence that names a bound has a test of its own, for every size of a cloth where the
 * size is the bound. Every private method here is run.
 */
public final class BoundsShapesTest {
    private static final int BAD = -1, STATE = -2, FULL = -3;
    private static final int LEAST = Integer.MIN_VALUE, MOST = Integer.MAX_VALUE;
    private static final int[] FAR = {LEAST, MOST, -9, 9, 64, 256, -256, 1 << 16, 1 << 28, 1 << 30};
    private static final Due DUE = new Due("BoundsShapesTest");

    private BoundsShapesTest() {
    }

    private static void is(String call, long got, long want) {
        DUE.is(call, got, want);
    }

    private static void size(String of, RowsColumns x, int high, int wide) {
        is("high " + of, x.rule(0), high);
        is("wide " + of, x.rule(1), wide);
    }

    private static void noPlans(String of, RowsColumns x) {
        is("pattern " + of, x.rule(2), 0);
        is("its set " + of, x.cloth(1), 0);
        is("days " + of, x.rule(3), 0);
        is("the first " + of, x.day(0, -1), BAD);
    }

    private static RowsColumns told(int high, int wide) {
        return Due.told("cloth" + Due.rows(high, wide, Due.some(high, wide)) + "; pattern"
            + Due.rows(high, wide, Due.all(high, wide) ^ Due.some(high, wide)) + "; day row 0; day column 0;");
    }

    // ---- rotate

    private static void rotateIsBy0To7() {
        RowsColumns x = new RowsColumns();
        is("0", x.rotate(0), 4);
        is("7", x.rotate(7), 4);
        is("8", x.rotate(8), BAD);
        is("-1", x.rotate(-1), BAD);
        for (int t : FAR) {
            is("" + t, x.rotate(t), BAD);
        }
    }

    private static void rotateBy0IsAsItIs() {
        Due.everySize((high, wide) -> {
            RowsColumns x = told(high, wide);
            is("rows of " + high + wide, x.rotate(0), high);
            size("of " + high + wide, x, high, wide);
            is("cloth of " + high + wide, x.cloth(0), Due.some(high, wide));
            is("pattern of " + high + wide, x.cloth(1), Due.all(high, wide) ^ Due.some(high, wide));
        });
    }

    private static void rotateBy0StillTellsNoDays() {
        RowsColumns x = told(2, 2);
        x.rotate(0);
        is("days", x.rule(3), 0);
        is("the first", x.day(0, -1), BAD);
        is("go(1)", x.go(1), BAD);
    }

    private static void rotateByOddOnesTakesColumnsForRows() {
        Due.everySize((high, wide) -> {
            for (int t = 0; t < 8; t++) {
                RowsColumns x = Due.cloth(high, wide, 0);
                is("rows by " + t + " of " + high + wide, x.rotate(t), t % 2 == 0 ? high : wide);
                size("by " + t + " of " + high + wide, x, t % 2 == 0 ? high : wide, t % 2 == 0 ? wide : high);
            }
        });
    }

    /** Where a square comes to, as row times 8 and column: by hand for each of the eight. */
    private static int comesTo(int t, int high, int wide, int r, int c) {
        int lastRow = high - 1;
        int lastColumn = wide - 1;
        int[] all = {8 * r + c, 8 * c + lastRow - r, 8 * (lastRow - r) + lastColumn - c, 8 * (lastColumn - c) + r,
            8 * r + lastColumn - c, 8 * (lastColumn - c) + lastRow - r, 8 * (lastRow - r) + c, 8 * c + r};
        return all[t];
    }

    private static void rotateTakesEachSquareToItsPlace() {
        Due.everySize((high, wide) -> {
            for (int t = 0; t < 8; t++) {
                long due = 0;
                for (int r = 0; r < high; r++) {
                    for (int c = 0; c < wide; c++) {
                        due |= (Due.some(high, wide) >>> 8 * r + c & 1) << comesTo(t, high, wide, r, c);
                    }
                }
                RowsColumns x = Due.wished(high, wide, Due.some(high, wide), Due.some(high, wide));
                x.rotate(t);
                is("cloth by " + t + " of " + high + wide, x.cloth(0), due);
                is("pattern by " + t + " of " + high + wide, x.cloth(1), due);
            }
        });
    }

    private static void rotateTheCornersOfTheGreatest() {
        int[] due = {0, 7, 63, 56, 7, 63, 56, 0};
        for (int t = 0; t < 8; t++) {
            RowsColumns x = Due.cloth(8, 8, 1);
            x.rotate(t);
            is("the first square by " + t, x.cloth(0), 1L << due[t]);
        }
    }

    private static void rotateIsUndone() {
        int[] back = {0, 3, 2, 1, 4, 5, 6, 7};
        for (int t = 0; t < 8; t++) {
            RowsColumns x = Due.cloth(5, 7, Due.some(5, 7));
            x.rotate(t);
            x.rotate(back[t]);
            is("by " + t, x.cloth(0), Due.some(5, 7));
            size("by " + t, x, 5, 7);
        }
    }

    private static void rotateKeepsThePattern() {
        RowsColumns x = told(2, 3);
        x.rotate(1);
        is("pattern", x.rule(2), 1);
        is("it can be asked", x.plan(0) != STATE ? 1 : 0, 1);
        x = new RowsColumns();
        x.rotate(1);
        is("none stays none", x.rule(2), 0);
    }

    private static void rotateKeepsImages() {
        RowsColumns x = Due.cloth(1, 8, 1);
        x.keep(0);
        x.rotate(1);
        is("images", x.count(3), 1);
        is("back", x.back(0), 1);
        size("of the image", x, 1, 8);
        is("cloth of the image", x.cloth(0), 1);
    }

    // ---- cut

    private static void cutAll() {
        Due.everySize((high, wide) -> {
            RowsColumns x = told(high, wide);
            is("dark of " + high + wide, x.cut(0, high, 0, wide), Long.bitCount(Due.some(high, wide)));
            is("cloth of " + high + wide, x.cloth(0), Due.some(high, wide));
            size("of " + high + wide, x, high, wide);
            noPlans("of " + high + wide, x);
        });
    }

    private static void cutTheFirstSquare() {
        Due.everySize((high, wide) -> {
            RowsColumns x = told(high, wide);
            is("dark of " + high + wide, x.cut(0, 1, 0, 1), Due.SOME & 1);
            is("cloth of " + high + wide, x.cloth(0), Due.SOME & 1);
            size("of " + high + wide, x, 1, 1);
            noPlans("of " + high + wide, x);
        });
    }

    private static void cutTheLastSquare() {
        Due.everySize((high, wide) -> {
            RowsColumns x = told(high, wide);
            long due = Due.SOME >>> 8 * (high - 1) + wide - 1 & 1;
            is("dark of " + high + wide, x.cut(high - 1, 1, wide - 1, 1), due);
            is("cloth of " + high + wide, x.cloth(0), due);
            size("of " + high + wide, x, 1, 1);
        });
    }

    private static void cutEveryPartOfTheGreatest() {
        Due.everySize((rows, columns) -> {
            int r = 8 - rows;
            int c = 8 - columns;
            RowsColumns x = Due.cloth(8, 8, Due.SOME);
            long due = Due.SOME >>> 8 * r + c & Due.all(rows, columns);
            is("dark of " + rows + columns, x.cut(r, rows, c, columns), Long.bitCount(due));
            is("cloth of " + rows + columns, x.cloth(0), due);
            size("of " + rows + columns, x, rows, columns);
        });
    }

    private static void cutRowsThereAreNot() {
        Due.everySize((high, wide) -> {
            RowsColumns x = told(high, wide);
            is("from behind the last of " + high + wide, x.cut(high, 1, 0, 1), BAD);
            is("one too many of " + high + wide, x.cut(0, high + 1, 0, 1), BAD);
            is("one too many from the last of " + high + wide, x.cut(high - 1, 2, 0, 1), BAD);
            is("from -1 of " + high + wide, x.cut(-1, 1, 0, 1), BAD);
            is("no rows of " + high + wide, x.cut(0, 0, 0, 1), BAD);
            is("no rows behind the last of " + high + wide, x.cut(high, 0, 0, 1), BAD);
            is("-1 rows of " + high + wide, x.cut(0, -1, 0, 1), BAD);
            is("nothing is cut of " + high + wide, x.count(1), high * wide);
            is("plans of " + high + wide, x.rule(2) + x.rule(3), 3);
        });
    }

    private static void cutColumnsThereAreNot() {
        Due.everySize((high, wide) -> {
            RowsColumns x = told(high, wide);
            is("from behind the last of " + high + wide, x.cut(0, 1, wide, 1), BAD);
            is("one too many of " + high + wide, x.cut(0, 1, 0, wide + 1), BAD);
            is("one too many from the last of " + high + wide, x.cut(0, 1, wide - 1, 2), BAD);
            is("from -1 of " + high + wide, x.cut(0, 1, -1, 1), BAD);
            is("no columns of " + high + wide, x.cut(0, 1, 0, 0), BAD);
            is("no columns behind the last of " + high + wide, x.cut(0, 1, wide, 0), BAD);
            is("-1 columns of " + high + wide, x.cut(0, 1, 0, -1), BAD);
            is("nothing is cut of " + high + wide, x.count(1), high * wide);
            is("plans of " + high + wide, x.rule(2) + x.rule(3), 3);
        });
    }

    private static void cutFarAway() {
        RowsColumns x = told(8, 8);
        for (int far : FAR) {
            is("from row " + far, x.cut(far, 1, 0, 1), BAD);
            is("rows " + far, x.cut(1, far, 0, 1), BAD);
            is("from row and rows " + far, x.cut(far, far, 0, 1), BAD);
            is("from column " + far, x.cut(0, 1, far, 1), BAD);
            is("columns " + far, x.cut(0, 1, 1, far), BAD);
            is("from column and columns " + far, x.cut(0, 1, far, far), BAD);
        }
        is("a sum that wraps", x.cut(1, MOST, 1, MOST), BAD);
        is("a sum that wraps to a part", x.cut(LEAST + 4, MOST - 4, 0, 1), BAD);
        is("nothing is cut", x.count(1), 64);
    }

    private static void cutKeepsImages() {
        RowsColumns x = Due.cloth(2, 2, 1);
        x.keep(1);
        x.cut(0, 1, 0, 1);
        is("images", x.count(3), 1);
        is("back", x.back(1), 1);
        size("of the image", x, 2, 2);
    }

    // ---- sew

    private static RowsColumns withImage(int high, int wide, int imageHigh, int imageWide) {
        RowsColumns x = Due.cloth(Math.max(high, imageHigh), Math.max(wide, imageWide), Due.SOME
            & Due.all(Math.max(high, imageHigh), Math.max(wide, imageWide)));
        x.keep(1);
        x.cut(0, imageHigh, 0, imageWide);
        x.keep(0);
        x.back(1);
        x.cut(0, high, 0, wide);
        return x;
    }

    private static void sewToTheRightTo8AtMost() {
        Due.everySize((wide, imageWide) -> {
            for (int high = 1; high <= 8; high += 7) {
                RowsColumns x = withImage(high, wide, high, imageWide);
                boolean full = wide + imageWide > 8;
                long due = Due.some(high, wide) | (full ? 0 : Due.some(high, imageWide) << wide);
                is(wide + " and " + imageWide, x.sew(0, false), full ? FULL : Long.bitCount(due));
                is("cloth of " + wide + " and " + imageWide, x.cloth(0), due);
                size("of " + wide + " and " + imageWide, x, high, full ? wide : wide + imageWide);
            }
        });
    }

    private static void sewBelowTo8AtMost() {
        Due.everySize((high, imageHigh) -> {
            for (int wide = 1; wide <= 8; wide += 7) {
                RowsColumns x = withImage(high, wide, imageHigh, wide);
                boolean full = high + imageHigh > 8;
                long due = Due.some(high, wide) | (full ? 0 : Due.some(imageHigh, wide) << 8 * high);
                is(high + " and " + imageHigh, x.sew(0, true), full ? FULL : Long.bitCount(due));
                is("cloth of " + high + " and " + imageHigh, x.cloth(0), due);
                size("of " + high + " and " + imageHigh, x, full ? high : high + imageHigh, wide);
            }
        });
    }

    private static void sewWhatIsNotAsHigh() {
        Due.everySize((high, imageHigh) -> {
            if (high != imageHigh) {
                is(high + " and " + imageHigh, withImage(high, 2, imageHigh, 2).sew(0, false), STATE);
            }
        });
    }

    private static void sewWhatIsNotAsWide() {
        Due.everySize((wide, imageWide) -> {
            if (wide != imageWide) {
                is(wide + " and " + imageWide, withImage(2, wide, 2, imageWide).sew(0, true), STATE);
            }
        });
    }

    private static void sewIsStateAheadOfFull() {
        is("to the right", withImage(2, 8, 3, 8).sew(0, false), STATE);
        is("below", withImage(8, 2, 8, 3).sew(0, true), STATE);
    }

    private static void sewIsBadAheadOfState() {
        RowsColumns x = new RowsColumns();
        is("2", x.sew(2, false), BAD);
        is("-1", x.sew(-1, true), BAD);
        for (int k : FAR) {
            is("" + k, x.sew(k, false), BAD);
        }
    }

    private static void sewWithoutThatImage() {
        RowsColumns x = new RowsColumns();
        x.keep(1);
        is("right", x.sew(0, false), STATE);
        is("below", x.sew(0, true), STATE);
        is("the other one", x.sew(1, true), 0);
        size("of the other one", x, 8, 4);
    }

    private static void sewTellsNoPatternAndNoDays() {
        RowsColumns x = told(2, 2);
        x.keep(0);
        is("right", x.sew(0, false), 2 * Long.bitCount(Due.some(2, 2)));
        noPlans("to the right", x);
        x = told(2, 2);
        x.keep(0);
        x.sew(0, true);
        noPlans("below", x);
    }

    private static void sewThatIsRefusedKeepsThem() {
        RowsColumns x = told(2, 5);
        is("none", x.sew(0, false), STATE);
        x.keep(0);
        is("full", x.sew(0, false), FULL);
        is("bad", x.sew(2, false), BAD);
        is("plans", x.rule(2) + x.rule(3), 3);
    }

    private static void sewKeepsTheImage() {
        RowsColumns x = Due.cloth(1, 1, 1);
        x.keep(0);
        for (int i = 2; i <= 8; i++) {
            is("wide " + i, x.sew(0, false), i);
        }
        is("wide 9", x.sew(0, false), FULL);
        is("cloth", x.cloth(0), 255);
        x.keep(1);
        for (int i = 2; i <= 8; i++) {
            is("high " + i, x.sew(1, true), 8 * i);
        }
        is("high 9", x.sew(1, true), FULL);
        is("cloth", x.cloth(0), -1);
        is("the image", x.back(0), 1);
    }

    // ---- name, cousin

    private static void nameIsOf0And1() {
        RowsColumns x = Due.cloth(2, 1, 0);
        is("0", x.name(0), 0);
        is("1", x.name(1), 1);
        is("2", x.name(2), BAD);
        is("-1", x.name(-1), BAD);
        for (int what : FAR) {
            is("" + what, x.name(what), BAD);
        }
    }

    private static void nameHasNotMoreRowsThanColumns() {
        Due.everySize((high, wide) -> {
            RowsColumns x = Due.cloth(high, wide, 0);
            is("form of a light one " + high + wide, x.name(0), 0);
            is("its turning " + high + wide, x.name(1), high > wide ? 1 : 0);
        });
    }

    private static void nameHasTheLeastForm() {
        Due.everySize((high, wide) -> {
            RowsColumns x = Due.cloth(high, wide, Due.some(high, wide));
            long name = x.name(0);
            int turning = (int) x.name(1);
            boolean met = false;
            for (int t = 0; t < 8; t++) {
                RowsColumns y = Due.cloth(high, wide, Due.some(high, wide));
                y.rotate(t);
                if (y.rule(0) <= y.rule(1)) {
                    is("is not above that of " + t + " of " + high + wide, y.form(0) >= name ? 1 : 0, 1);
                    is("is the first " + t + " of " + high + wide, !met && y.form(0) == name ? turning : t, t);
                    met = met || y.form(0) == name;
                }
            }
            is("is one of them " + high + wide, met ? 1 : 0, 1);
        });
    }

    /** As a long the form that holds the last square is below 0: it is the least of the four corners' forms. */
    private static void nameIsTheLeastAsALong() {
        RowsColumns x = Due.cloth(8, 8, Long.MIN_VALUE);
        is("form", x.name(0), Long.MIN_VALUE);
        is("turning", x.name(1), 0);
        x = Due.cloth(8, 8, 1);
        is("form of the first corner", x.name(0), Long.MIN_VALUE);
        is("its turning", x.name(1), 2);
    }

    private static void nameIsOfTheFirstTurning() {
        RowsColumns x = Due.cloth(2, 3, Due.set("lll", "lld"));
        is("form", x.name(0), Due.set("lll", "lld"));
        is("0 ahead of others", x.name(1), 0);
        x = Due.cloth(2, 3, Due.set("lll", "ldl"));
        is("form", x.name(0), Due.set("lll", "ldl"));
        is("0 ahead of others", x.name(1), 0);
    }

    private static void nameLeavesTheCloth() {
        RowsColumns x = told(3, 2);
        x.name(0);
        x.name(1);
        is("cloth", x.cloth(0), Due.some(3, 2));
        size("as it was", x, 3, 2);
        is("plans", x.rule(2) + x.rule(3), 3);
    }

    private static void cousinIsOfAnImage() {
        RowsColumns x = new RowsColumns();
        x.keep(0);
        x.keep(1);
        is("0", x.cousin(0), 1);
        is("1", x.cousin(1), 1);
        is("2", x.cousin(2), BAD);
        is("-1", x.cousin(-1), BAD);
        for (int k : FAR) {
            is("" + k, x.cousin(k), BAD);
        }
    }

    private static void cousinWithoutThatImage() {
        RowsColumns x = new RowsColumns();
        x.keep(1);
        is("0", x.cousin(0), STATE);
        is("2 is BAD first", x.cousin(2), BAD);
    }

    private static void cousinsOfEverySizeAndTurning() {
        Due.everySize((high, wide) -> {
            RowsColumns x = Due.cloth(high, wide, Due.some(high, wide));
            x.keep(0);
            for (int t = 0; t < 8; t++) {
                x.rotate(t);
                x.turn((1 << x.rule(0)) - 1 & 0x35, (1 << x.rule(1)) - 1 & 0x1d);
                is("by " + t + " of " + high + wide, x.cousin(0), 1);
            }
        });
    }

    private static void cousinsAreOfOneSize() {
        Due.everySize((high, wide) -> {
            RowsColumns x = Due.cloth(8, 8, 0);
            x.cut(0, high, 0, wide);
            x.keep(0);
            Due.tell(x, "");
            x.keep(0);
            x.cut(0, Math.min(4, high), 0, Math.min(4, wide));
            boolean same = high >= 4 && wide >= 4;
            is("light ones 4 by 4 and " + high + wide, x.cousin(0), same ? 1 : 0);
        });
    }

    private static void cousinsOfOneFormButAnotherSize() {
        RowsColumns x = Due.cloth(3, 4, 0);
        x.keep(0);
        x.cut(0, 3, 0, 3);
        is("narrower", x.cousin(0), 0);
        x.back(0);
        x.cut(0, 2, 0, 4);
        is("lower", x.cousin(0), 0);
        x.back(0);
        x.rotate(1);
        is("turned", x.cousin(0), 1);
        x = Due.cloth(2, 6, 0);
        x.cut(0, 2, 0, 3);
        x.keep(0);
        x.cut(0, 1, 0, 3);
        x.keep(1);
        x.sew(1, false);
        is("as many squares", x.cousin(0), 0);
    }

    private static void cousinsNoMoreByOneSquare() {
        RowsColumns x = Due.cloth(3, 3, Due.set("lll", "ldl", "lll"));
        x.keep(0);
        x.paint(1, 1, false);
        is("another form", x.cousin(0), 0);
    }

    // ---- keep, back

    private static void keepIsOf0And1() {
        RowsColumns x = new RowsColumns();
        is("0", x.keep(0), 0);
        is("1", x.keep(1), 0);
        is("2", x.keep(2), BAD);
        is("-1", x.keep(-1), BAD);
        for (int k : FAR) {
            is("" + k, x.keep(k), BAD);
        }
        is("images", x.count(3), 2);
    }

    private static void keepTellsWhetherThereWasOne() {
        RowsColumns x = new RowsColumns();
        is("none", x.keep(1), 0);
        is("one", x.keep(1), 1);
        is("of the other none", x.keep(0), 0);
        x.text();
        is("gone", x.keep(1), 0);
    }

    private static void keepHoldsItsSize() {
        Due.everySize((high, wide) -> {
            RowsColumns x = Due.cloth(high, wide, Due.some(high, wide));
            x.keep(0);
            x.cut(0, 1, 0, 1);
            is("dark of " + high + wide, x.back(0), Long.bitCount(Due.some(high, wide)));
            is("cloth of " + high + wide, x.cloth(0), Due.some(high, wide));
            size("of " + high + wide, x, high, wide);
        });
    }

    private static void keepIsAsTheClothWasThen() {
        RowsColumns x = Due.cloth(2, 2, 0);
        x.keep(0);
        x.turn(3, 0);
        is("back", x.back(0), 0);
        x.turn(3, 0);
        x.keep(0);
        x.turn(3, 0);
        is("the later one", x.back(0), 4);
    }

    private static void keepLeavesPlans() {
        RowsColumns x = told(2, 3);
        x.keep(0);
        is("plans", x.rule(2) + x.rule(3), 3);
        is("cloth", x.cloth(0), Due.some(2, 3));
    }

    private static void backIsOf0And1() {
        RowsColumns x = new RowsColumns();
        x.keep(0);
        x.keep(1);
        is("0", x.back(0), 0);
        is("1", x.back(1), 0);
        is("2", x.back(2), BAD);
        is("-1", x.back(-1), BAD);
        for (int k : FAR) {
            is("" + k, x.back(k), BAD);
        }
    }

    private static void backWithoutThatImage() {
        RowsColumns x = told(2, 2);
        is("0", x.back(0), STATE);
        is("1", x.back(1), STATE);
        is("2 is BAD first", x.back(2), BAD);
        x.keep(1);
        is("0 still", x.back(0), STATE);
        is("plans", x.rule(2) + x.rule(3), 3);
    }

    private static void backOfOneSizeKeepsPatternAndDays() {
        Due.everySize((high, wide) -> {
            RowsColumns x = told(high, wide);
            x.keep(0);
            x.turn(1, 0);
            is("dark of " + high + wide, x.back(0), Long.bitCount(Due.some(high, wide)));
            is("pattern of " + high + wide, x.cloth(1), Due.all(high, wide) ^ Due.some(high, wide));
            is("plans of " + high + wide, x.rule(2) + x.rule(3), 3);
        });
    }

    private static void backOfAnotherSizeHasNoPattern() {
        RowsColumns x = told(2, 3);
        x.keep(0);
        x.rotate(1);
        is("turned, it is there", x.rule(2), 1);
        is("back", x.back(0), Long.bitCount(Due.some(2, 3)));
        noPlans("of another height and width", x);
        size("of the image", x, 2, 3);
    }

    private static void backOfAsManySquaresIsAnotherSize() {
        RowsColumns x = Due.wished(1, 2, 1, 1);
        x.keep(0);
        x.rotate(1);
        x.back(0);
        noPlans("1 by 2", x);
    }

    private static void backKeepsTheImage() {
        RowsColumns x = Due.cloth(2, 2, 1);
        x.keep(0);
        x.back(0);
        x.turn(3, 0);
        is("again", x.back(0), 1);
        is("images", x.count(3), 1);
    }

    public static void main(String[] args) {
        DUE.every(BoundsShapesTest.class);
        DUE.close();
    }
}
