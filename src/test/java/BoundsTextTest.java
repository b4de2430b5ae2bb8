/**
 * Part 1 of the document's Terms and promises 1 to 7: each sentence that names a bound has a test of its own,
 * just inside and just outside. Every private method here is run.
 */
public final class BoundsTextTest {
    private static final int BAD = -1, FULL = -3, NONE = -4;
    private static final int LEAST = Integer.MIN_VALUE, MOST = Integer.MAX_VALUE;
    private static final long BLANKS = 0x2020202020202020L;
    private static final String EIGHT_ROWS = " llllllll".repeat(8);
    private static final Due DUE = new Due("BoundsTextTest");

    private BoundsTextTest() {
    }

    private static void is(String call, long got, long want) {
        DUE.is(call, got, want);
    }

    private static void taken(String text, int lines) {
        RowsColumns x = new RowsColumns();
        is("text() of \"" + text + "\"", Due.tell(x, text), lines);
        is("fault() of \"" + text + "\"", x.fault(), 0);
    }

    private static void refused(String text, int place, int fault) {
        RowsColumns x = new RowsColumns();
        is("text() of \"" + text + "\"", Due.tell(x, text), -10 - place);
        is("fault() of \"" + text + "\"", x.fault(), fault);
    }

    private static RowsColumns filled() {
        RowsColumns x = new RowsColumns();
        for (int i = 0; i < 40; i++) {
            x.feed(BLANKS);
        }
        return x;
    }

    // ---- promise 1, the cloth

    private static void aNewClothHas4RowsAnd4Columns() {
        RowsColumns x = new RowsColumns();
        is("high", x.rule(0), 4);
        is("wide", x.rule(1), 4);
        is("the last square", x.square(3, 3), 0);
        is("row 4", x.square(4, 0), BAD);
        is("column 4", x.square(0, 4), BAD);
    }

    private static void aNewClothIsAllLight() {
        RowsColumns x = new RowsColumns();
        is("dark squares", x.count(0), 0);
        is("the set", x.cloth(0), 0);
        is("all turned", x.turn(15, 0), 16);
    }

    private static void atFirstThereIsNoPattern() {
        RowsColumns x = new RowsColumns();
        is("pattern", x.rule(2), 0);
        is("its set", x.cloth(1), 0);
        is("unlike", x.count(2), NONE);
    }

    private static void atFirstThereAreNoDays() {
        RowsColumns x = new RowsColumns();
        is("days", x.rule(3), 0);
        is("the first", x.day(0, -1), BAD);
        is("go(0)", x.go(0), 0);
        is("go(1)", x.go(1), BAD);
    }

    private static void atFirstThereAreNoImages() {
        RowsColumns x = new RowsColumns();
        is("images", x.count(3), 0);
        is("0 is told to be none", x.keep(0), 0);
        is("1 is told to be none", x.keep(1), 0);
    }

    private static void atFirstAnImageIsKeptOfTheFirstCloth() {
        RowsColumns x = new RowsColumns();
        x.keep(0);
        is("it is there", x.keep(0), 1);
        is("images", x.count(3), 1);
        is("back", x.back(0), 0);
    }

    private static void atFirstTheTapeIsEmpty() {
        RowsColumns x = new RowsColumns();
        is("bytes", x.count(4), 0);
        is("end(0)", x.end(0), 0);
        is("text()", x.text(), 0);
    }

    private static void atFirstSheetsAreNothing() {
        for (int k = 0; k < 4; k++) {
            RowsColumns x = new RowsColumns();
            is("lay", x.lay(k, 0, 0), -11);
            is("read", x.read(k, 0, 0, 1), 0);
            is("torn", x.torn(), 1);
            is("cells", x.count(5), NONE);
        }
    }

    private static void atFirstThereIsNoFault() {
        is("fault()", new RowsColumns().fault(), 0);
        is("torn()", new RowsColumns().torn(), 0);
    }

    private static void aClothHas1To8RowsAndColumns() {
        for (int high = 1; high <= 8; high++) {
            for (int wide = 1; wide <= 8; wide++) {
                RowsColumns x = Due.cloth(high, wide, Due.all(high, wide));
                is("high of " + high + wide, x.rule(0), high);
                is("wide of " + high + wide, x.rule(1), wide);
                is("squares of " + high + wide, x.count(1), high * wide);
                is("dark of " + high + wide, x.count(0), high * wide);
                is("slants of " + high + wide, x.rule(4), high + wide - 1);
            }
        }
    }

    private static void aSquaresBitIs8TimesItsRowAndItsColumn() {
        for (int r = 0; r < 8; r++) {
            for (int c = 0; c < 8; c++) {
                RowsColumns x = Due.cloth(8, 8, 0);
                x.paint(r, c, true);
                is("square " + r + c, x.cloth(0), 1L << 8 * r + c);
            }
        }
        RowsColumns x = Due.cloth(3, 2, 0);
        x.paint(2, 1, true);
        is("of a narrow cloth", x.cloth(0), 1L << 17);
    }

    // ---- days

    private static void thereAreTwelveDays() {
        RowsColumns x = Due.told("day row 1;".repeat(12));
        is("days", x.rule(3), 12);
        is("the last", x.day(11, 0), 1);
        is("the 13th", x.day(12, 0), BAD);
    }

    private static void the13thDayIsRefusedAtItsName() {
        refused("day row 1;".repeat(12) + "  day row 1;", 122, 5);
    }

    private static void theNameOfA13thDayIsEnough() {
        refused("day row 1;".repeat(12) + "day,", 120, 5);
        refused("day row 1;".repeat(12) + "day", 120, 5);
    }

    private static void behindTwelveDaysAClothMayStillCome() {
        taken("day row 0;".repeat(12) + "cloth d; pattern d;", 14);
    }

    private static void aDayHas1ActAtLeast() {
        refused("day;", 3, 2);
        taken("day row 1;", 1);
    }

    private static void aDayHas3ActsAtMost() {
        RowsColumns x = Due.told("day row 1 column 2 slant 3;");
        is("acts", x.day(0, -1), 3);
        refused("day row 1 column 2 slant 3 row 1;", 27, 5);
    }

    private static void theNameOfA4thActIsEnough() {
        refused("day row 1 row 1 row 1 row", 22, 5);
        refused("day row 1 row 1 row 1 column 99;", 22, 5);
        refused("day row 1 row 1 row 1 slant,", 22, 5);
    }

    private static void aNameThatIsNoActIsNo4thAct() {
        refused("day row 1 row 1 row 1 cloth d;", 22, 2);
    }

    private static void theNextDayHasActsOfItsOwn() {
        RowsColumns x = Due.told("day row 1 row 2 row 3; day column 1;");
        is("first", x.day(0, -1), 3);
        is("second", x.day(1, -1), 1);
        is("no more", x.day(1, 1), BAD);
    }

    // ---- the tape

    private static void theTapeHas320Bytes() {
        RowsColumns x = filled();
        is("bytes", x.count(4), 320);
        is("one feed more", x.feed(BLANKS), FULL);
    }

    private static void aFullTapeIsStillWhole() {
        RowsColumns x = new RowsColumns();
        Due.put(x, " ".repeat(312) + "cloth d;");
        x.feed(-1);
        is("bytes", x.count(4), 320);
        is("text()", x.text(), 1);
        is("its last bytes", x.cloth(0), 1);
    }

    private static void feed8BytesThatJustFit() {
        RowsColumns x = filled();
        x.end(312);
        is("312", x.feed(BLANKS), 320);
    }

    private static void feed8BytesThatJustDoNot() {
        for (int n = 313; n <= 320; n++) {
            RowsColumns x = filled();
            x.end(n);
            is("" + n, x.feed(BLANKS), FULL);
            is("nothing came", x.count(4), n);
        }
    }

    private static void feedTellsHowManyTheTapeHas() {
        RowsColumns x = new RowsColumns();
        is("first", x.feed(0), 8);
        is("second", x.feed(0), 16);
        x.end(9);
        is("behind 9", x.feed(0), 17);
    }

    private static void feedTheHighestByteFirst() {
        RowsColumns x = new RowsColumns();
        x.feed(0x636c6f746820643bL);
        is("cloth d;", x.text(), 1);
        is("cloth d;", x.cloth(0), 1);
        is("cloth d;", x.count(1), 1);
    }

    private static void feedTheLeastAndTheGreatest() {
        long[] all = {Long.MIN_VALUE, Long.MAX_VALUE, -1, 0};
        for (long v : all) {
            RowsColumns x = new RowsColumns();
            is("feed(" + v + ")", x.feed(v), 8);
            is("its first byte", x.text(), -10);
            is("is no token", x.fault(), 1);
        }
    }

    private static void placesAreFrom0() {
        refused(",", 0, 1);
        refused(" ,", 1, 1);
    }

    private static void theLastPlaceIs319() {
        refused(" ".repeat(319) + ",", 319, 1);
    }

    private static void theEndOfAFullTapeIs320() {
        refused(" ".repeat(315) + "cloth", 320, 2);
        refused(" ".repeat(310) + "pattern d;", 320, 6);
        refused(" ".repeat(310) + "day row 4;", 320, 7);
    }

    private static void aFullTapeIsTaken() {
        taken("cloth d;" + " ".repeat(303) + "day row0;", 2);
        taken(" ".repeat(310) + "day row 3;", 1);
        taken(" ".repeat(320), 0);
    }

    private static void endKeepsTheFirstBytes() {
        RowsColumns x = new RowsColumns();
        Due.put(x, "cloth d;cloth d;");
        is("had", x.end(8), 16);
        is("has", x.count(4), 8);
        is("text", x.text(), 1);
    }

    private static void endOfAll() {
        RowsColumns x = new RowsColumns();
        Due.put(x, "cloth d;");
        is("had", x.end(8), 8);
        is("text", x.text(), 1);
    }

    private static void endOfNone() {
        RowsColumns x = new RowsColumns();
        Due.put(x, "????????");
        is("had", x.end(0), 8);
        is("text", x.text(), 0);
    }

    private static void endAboveIsBad() {
        RowsColumns x = filled();
        is("321", x.end(321), BAD);
        is("most", x.end(MOST), BAD);
        x.end(5);
        is("6", x.end(6), BAD);
        is("5", x.end(5), 5);
        is("one of an empty tape", new RowsColumns().end(1), BAD);
    }

    private static void endBelowIsBad() {
        RowsColumns x = filled();
        is("-1", x.end(-1), BAD);
        is("least", x.end(LEAST), BAD);
        is("nothing was cut", x.count(4), 320);
    }

    private static void bytesThatWereCutDoNotComeBack() {
        RowsColumns x = new RowsColumns();
        Due.put(x, "cloth dd;       ");
        x.end(7);
        x.feed(0x3b20202020202020L);
        is("text", x.text(), 1);
        is("wide", x.rule(1), 1);
    }

    // ---- tokens

    private static void everyByteAloneIsAsTold() {
        for (int b = 0; b < 256; b++) {
            RowsColumns x = new RowsColumns();
            x.feed((long) b << 56);
            x.end(1);
            boolean token = b >= 'a' && b <= 'z' || b >= '0' && b <= '9' || b == ';';
            is("text() of byte " + b, x.text(), b == ' ' ? 0 : -10);
            is("fault() of byte " + b, x.fault(), b == ' ' ? 0 : token ? 2 : 1);
        }
    }

    private static void everyByteInARowIsAsTold() {
        for (int b = 0; b < 256; b++) {
            RowsColumns x = new RowsColumns();
            Due.put(x, "cloth d" + (char) b + ";");
            int place = 7;
            int fault = 1;
            if (b >= 'a' && b <= 'z') {
                place = 6;
                fault = 2;
            } else if (b >= '0' && b <= '9') {
                fault = 2;
            } else if (b == ';') {
                place = 8;
                fault = 2;
            }
            boolean well = b == ' ' || b == 'd' || b == 'l';
            is("text() with byte " + b, x.text(), well ? 1 : -10 - place);
            is("fault() with byte " + b, x.fault(), well ? 0 : fault);
        }
    }

    private static void everyByteAsANumberIsAsTold() {
        for (int b = 0; b < 256; b++) {
            RowsColumns x = new RowsColumns();
            Due.put(x, "day row" + (char) b + ";cloth d d d d d d d d;");
            boolean name = b >= 'a' && b <= 'z';
            boolean figure = b >= '0' && b <= '9';
            int place = name ? 4 : b == ' ' ? 8 : 7;
            int fault = name || b == ' ' || b == ';' ? 2 : figure ? 3 : 1;
            boolean well = b >= '0' && b <= '7';
            is("text() with byte " + b, x.text(), well ? 2 : -10 - place);
            is("fault() with byte " + b, x.fault(), well ? 0 : fault);
        }
    }

    private static void aNameIsAsLongAsMayBe() {
        refused("clothd;", 0, 2);
        refused("cloth dl;patternd;", 9, 2);
        refused("day rowcolumn 1;", 4, 2);
    }

    private static void aNumberIsAsLongAsMayBe() {
        refused("day row 12;", 8, 3);
        refused("day row 1 2;", 10, 2);
    }

    private static void blanksStandAhead() {
        taken("     cloth d;", 1);
    }

    private static void blanksStandBetween() {
        taken("cloth     d     l    ;    day     row     1    ;", 2);
    }

    private static void blanksStandBehind() {
        taken("cloth d;     ", 1);
        taken("cloth d; ", 1);
    }

    private static void elseNoBlankIsNeeded() {
        taken("cloth d;pattern d;day row0column0slant0;day slant0;", 4);
    }

    private static void aNumberHas1Or2Figures() {
        taken("day row 3;", 1);
        taken("day row 03;", 1);
        taken("day slant 14; cloth" + EIGHT_ROWS + ";", 2);
    }

    private static void aNumberOf3FiguresIsTooLong() {
        refused("day row 003;", 8, 1);
        refused("day row 003", 8, 1);
        refused("day row  1000000000000000000000000000000003;", 9, 1);
    }

    private static void aPointIsNoToken() {
        refused("cloth d.", 7, 1);
        refused("cloth d;.", 8, 1);
    }

    private static void lettersAreSmall() {
        refused("Cloth d;", 0, 1);
        refused("cloth D;", 6, 1);
        refused("cloth dL;", 7, 1);
    }

    // ---- lines

    private static void aTextOfNoLines() {
        taken("", 0);
        taken(" ", 0);
    }

    private static void aTextTellsHowManyLines() {
        taken("cloth d;", 1);
        taken("cloth d; pattern d;", 2);
        taken("cloth d; pattern d; day row 0;", 3);
        taken("cloth d; pattern d;" + "day row0;".repeat(12), 14);
    }

    private static void linesStandInAnyOrder() {
        taken("day row 0; pattern d; day row 0; cloth d; day row 0;", 5);
    }

    private static void aClothHas1RowAtLeast() {
        refused("cloth;", 5, 2);
        refused("pattern ;", 8, 2);
    }

    private static void aRowHas8SquaresAtMost() {
        taken("cloth dldldldl;", 1);
        refused("cloth dldldldld;", 6, 3);
        refused("pattern l dldldldld;", 10, 3);
    }

    private static void aRowHas1SquareAtLeast() {
        RowsColumns x = Due.told("cloth d;");
        is("wide", x.rule(1), 1);
    }

    private static void aRowIsNarrowerThanTheFirst() {
        refused("cloth dd d;", 9, 3);
        refused("cloth dd dd d;", 12, 3);
    }

    private static void aRowIsWiderThanTheFirst() {
        refused("cloth dd ddd;", 9, 3);
        refused("cloth d dddddddd;", 8, 3);
    }

    private static void aPatternsRowsAreAsWideAsItsFirstOne() {
        refused("cloth d; pattern dd dd d;", 23, 3);
        refused("cloth dd; pattern dd d;", 21, 3);
        refused("cloth dd; pattern d;", 20, 6);
    }

    private static void aClothHas8RowsAtMost() {
        taken("cloth d d d d d d d d;", 1);
        refused("cloth d d d d d d d d d;", 22, 5);
    }

    private static void aPatternHas8RowsAtMost() {
        taken("cloth d d d d d d d d;pattern l l l l l l l l;", 2);
        refused("pattern d d d d d d d d l;", 24, 5);
    }

    private static void a9thRowIsARowFirst() {
        refused("cloth d d d d d d d d day;", 22, 2);
        refused("cloth d d d d d d d d 1;", 22, 2);
        refused("cloth d d d d d d d d", 21, 2);
    }

    private static void rowsOfTheWholeClothAreRead() {
        long set = 0x8142241818244281L;
        is("cloth", Due.cloth(8, 8, set).cloth(0), set);
        is("pattern", Due.wished(8, 8, 0, set).cloth(1), set);
        is("the other way", Due.cloth(8, 8, ~set).cloth(0), ~set);
    }

    private static void aRowActIs0To7() {
        taken("cloth" + EIGHT_ROWS + "; day row 0 row 7;", 2);
        refused("cloth" + EIGHT_ROWS + "; day row 8;", 87, 3);
        refused("day row 99;", 8, 3);
    }

    private static void aColumnActIs0To7() {
        taken("cloth" + EIGHT_ROWS + "; day column 0 column 7;", 2);
        refused("cloth" + EIGHT_ROWS + "; day column 8;", 90, 3);
        refused("day column 10;", 11, 3);
    }

    private static void aSlantActIs0To14() {
        taken("cloth" + EIGHT_ROWS + "; day slant 0 slant 14;", 2);
        refused("cloth" + EIGHT_ROWS + "; day slant 15;", 89, 3);
        refused("day slant 99;", 10, 3);
    }

    // ---- faults

    private static void fault1AtItsFirstByte() {
        refused("  123", 2, 1);
        refused("cloth d; !", 9, 1);
    }

    private static void fault2ANameThatBeginsNoLine() {
        refused("row 1;", 0, 2);
        refused("cloth d; d;", 9, 2);
        refused("cloths d;", 0, 2);
        refused("clot d;", 0, 2);
        refused("days row 1;", 0, 2);
        refused("da row 1;", 0, 2);
        refused("patterns d;", 0, 2);
        refused("patter d;", 0, 2);
    }

    /** Each letter of a NAME counts: with any one unlike it is another one. */
    private static void fault2ANameOneLetterUnlike() {
        String[] lines = {"cloth", "pattern", "day", "row", "column", "slant"};
        for (String name : lines) {
            String ahead = name.equals("row") || name.equals("column") || name.equals("slant") ? "day " : "";
            for (int i = 0; i < name.length(); i++) {
                char other = name.charAt(i) == 'z' ? 'y' : (char) (name.charAt(i) + 1);
                refused(ahead + name.substring(0, i) + other + name.substring(i + 1) + " 1;", ahead.length(), 2);
            }
        }
    }

    private static void fault2ANameThatIsNoRow() {
        refused("cloth dm;", 6, 2);
        refused("cloth d c;", 8, 2);
        refused("cloth pattern d;", 6, 2);
        refused("cloth dddddddddda;", 6, 2);
    }

    private static void fault2ANameThatIsNoAct() {
        refused("day d;", 4, 2);
        refused("day rows 1;", 4, 2);
        refused("day ro 1;", 4, 2);
        refused("day columns 1;", 4, 2);
        refused("day colum 1;", 4, 2);
        refused("day slants 1;", 4, 2);
        refused("day slan 1;", 4, 2);
        refused("day row 1 rows 1;", 10, 2);
    }

    private static void fault2TheSignAlone() {
        refused(";", 0, 2);
        refused("cloth d;;", 8, 2);
        refused("day row;", 7, 2);
    }

    private static void fault2ANumberThatCanNotStandThere() {
        refused("1", 0, 2);
        refused("cloth 1", 6, 2);
        refused("day 1", 4, 2);
        refused("day row 1 1;", 10, 2);
    }

    private static void fault2ANameWhereANumberIsDue() {
        refused("day row row 1;", 8, 2);
        refused("day slant d;", 10, 2);
    }

    private static void fault2TheEndIsAtTheLength() {
        refused("cloth", 5, 2);
        refused("cloth d", 7, 2);
        refused("pattern d d", 11, 2);
        refused("day", 3, 2);
        refused("day row", 7, 2);
        refused("day row 1", 9, 2);
    }

    private static void fault2TheEndIsBehindItsBlanks() {
        refused("cloth   ", 8, 2);
        refused("day row 1   ", 12, 2);
    }

    private static void fault3IsAtTheNumber() {
        refused("day row    8;", 11, 3);
        refused("day row8;", 7, 3);
    }

    private static void fault3IsMetAheadOfWhatFollows() {
        refused("day row 8,", 8, 3);
        refused("cloth dd d,", 9, 3);
        refused("cloth ddddddddd,", 6, 3);
    }

    private static void fault3OfANumberStandsAheadOf7() {
        refused("day row 8; cloth d;", 8, 3);
    }

    private static void fault4TheSecondCloth() {
        refused("cloth d; day row 0; cloth d;", 20, 4);
        refused("cloth d;cloth,", 8, 4);
    }

    private static void fault4TheSecondPattern() {
        refused("cloth d; pattern d; day row 0; pattern d;", 31, 4);
        refused("pattern d;pattern", 10, 4);
    }

    private static void aClothAndAPatternAreTwo() {
        taken("pattern d; cloth d;", 2);
    }

    private static void fault6AnotherHeight() {
        refused("cloth d d; pattern d;", 21, 6);
        refused("cloth d; pattern d d;", 21, 6);
    }

    private static void fault6AnotherWidth() {
        refused("cloth dd; pattern d;", 20, 6);
        refused("pattern dd; cloth d;  ", 22, 6);
    }

    private static void fault6AsManySquaresAreAnotherSize() {
        refused("cloth dd; pattern d d;", 22, 6);
    }

    private static void fault6WithoutAClothItIs4By4() {
        taken("pattern llll llll llll llll;", 1);
        refused("pattern lll lll lll lll;", 24, 6);
        RowsColumns x = Due.told("cloth d;");
        is("a cloth that was told before is none", Due.tell(x, "pattern d;"), -20);
        is("a cloth that was told before is none", x.fault(), 6);
    }

    private static void fault7ARow() {
        taken("cloth d d d; day row 2;", 2);
        refused("cloth d d d; day row 3;", 23, 7);
    }

    private static void fault7AColumn() {
        taken("cloth ddd; day column 2;", 2);
        refused("cloth ddd; day column 3;", 24, 7);
    }

    private static void fault7ASlant() {
        taken("cloth ddd ddd; day slant 3;", 2);
        refused("cloth ddd ddd; day slant 4;", 27, 7);
    }

    private static void fault7OfEveryActAndDay() {
        refused("cloth dd dd; day row 0 row 1 row 2;", 35, 7);
        refused("cloth dd dd; day row 0; day row 2; day row 0;", 45, 7);
        refused("day row 0;".repeat(11) + "day row 0 row 0 row 1; cloth d;", 141, 7);
    }

    private static void fault7WithoutAClothItIs4By4() {
        RowsColumns x = Due.cloth(8, 8, 0);
        is("a cloth that was told before is none", Due.tell(x, "day row 4;"), -20);
        is("a cloth that was told before is none", x.fault(), 7);
        taken("day row 3 column 3 slant 6;", 1);
        refused("day slant 7;", 12, 7);
    }

    private static void fault6IsMetAheadOf7() {
        refused("day row 7; cloth d; pattern dd;", 31, 6);
    }

    private static void faults6And7AreMetBehindAll() {
        refused("cloth d; pattern dd; ,", 21, 1);
        refused("cloth d; day row 7; cloth", 20, 4);
        refused("cloth d; pattern dd; day", 24, 2);
    }

    private static void theFirstFaultIsTold() {
        refused("cloth x, ddddddddd", 6, 2);
        refused("cloth ddddddddd; zebra", 6, 3);
        refused("zebra cloth d;cloth d;", 0, 2);
    }

    // ---- what a text does

    private static void aTextWithoutAClothIs4By4Light() {
        RowsColumns x = Due.cloth(8, 8, -1);
        is("text()", Due.tell(x, "day row 1;"), 1);
        is("high", x.rule(0), 4);
        is("wide", x.rule(1), 4);
        is("cloth", x.cloth(0), 0);
    }

    private static void aTextWithoutAPatternHasNone() {
        RowsColumns x = Due.wished(2, 2, 3, 3);
        is("text()", Due.tell(x, "cloth dd ll;"), 1);
        is("pattern", x.rule(2), 0);
        is("its set", x.cloth(1), 0);
    }

    private static void aTextWithoutDaysHasNone() {
        RowsColumns x = Due.told("day row 1; day row 2;");
        is("text()", Due.tell(x, "cloth llll llll llll llll;"), 1);
        is("days", x.rule(3), 0);
        is("the first", x.day(0, 0), BAD);
    }

    private static void aTextTakesTheDaysPlace() {
        RowsColumns x = Due.told("day row 1 row 2 row 3; day row 2;");
        is("text()", Due.tell(x, "day column 1;"), 1);
        is("days", x.rule(3), 1);
        is("acts", x.day(0, -1), 1);
        is("act", x.day(0, 0), 21);
    }

    private static void aTextOfNothingTellsAll() {
        RowsColumns x = Due.told("cloth d; pattern d; day row 0;");
        x.keep(0);
        is("text()", x.text(), 0);
        is("high", x.rule(0), 4);
        is("wide", x.rule(1), 4);
        is("cloth", x.cloth(0), 0);
        is("pattern, days", x.rule(2) + x.rule(3), 0);
        is("images", x.count(3), 0);
    }

    private static void imagesAreGoneWithAText() {
        RowsColumns x = new RowsColumns();
        x.keep(0);
        x.keep(1);
        Due.tell(x, "cloth d;");
        is("images", x.count(3), 0);
        is("0", x.back(0), -2);
        is("1", x.back(1), -2);
    }

    private static void sheetsStayWithAText() {
        RowsColumns x = new RowsColumns();
        for (int k = 0; k < 4; k++) {
            x.sheet(k, 1, k + 2);
            x.lay(k, 1, k);
        }
        Due.tell(x, "cloth l l l l;");
        for (int k = 0; k < 4; k++) {
            is("read of " + k, x.read(k, 1, 0, 1), 1);
            is("its row of " + k, x.square(k, 0), 1);
            is("its length of " + k, x.lay(k, k + 2, 0), -12);
        }
    }

    private static void theTapeIsEmptyBehindAText() {
        RowsColumns x = new RowsColumns();
        Due.tell(x, "cloth d;");
        is("bytes", x.count(4), 0);
        is("end(1)", x.end(1), BAD);
        is("feed", x.feed(BLANKS), 8);
    }

    private static void theTapeIsEmptyBehindAFault() {
        RowsColumns x = new RowsColumns();
        Due.tell(x, "?");
        is("bytes", x.count(4), 0);
        is("feed", x.feed(BLANKS), 8);
        is("text", x.text(), 0);
    }

    private static void whatWasToldStaysByEachFault() {
        String[] faulty = {"?", "cloth", "cloth dd d;", "cloth l; cloth l;", "cloth l l l l l l l l l;",
            "cloth l l; pattern ll;", "cloth ll; day row 3;"};
        for (int f = 0; f < faulty.length; f++) {
            RowsColumns x = Due.told("cloth dl ld; pattern dd ll; day slant 2; day row 1 column 0;");
            x.keep(1);
            x.sheet(0, 2, 9);
            is("text() of fault " + (f + 1), Due.tell(x, faulty[f]) <= -10 ? 1 : 0, 1);
            is("fault()", x.fault(), f + 1);
            is("cloth", x.cloth(0), Due.set("dl", "ld"));
            is("pattern", x.cloth(1), Due.set("dd", "ll"));
            is("size", x.rule(0) * 10 + x.rule(1), 22);
            is("days", x.rule(3), 2);
            is("act", x.day(0, 0), 42);
            is("acts", x.day(1, -1), 2);
            is("images", x.count(3), 1);
            is("cells", x.count(5), 9);
        }
    }

    private static void theFaultIsOfTheLatestText() {
        RowsColumns x = new RowsColumns();
        Due.tell(x, "?");
        is("1", x.fault(), 1);
        Due.tell(x, "cloth");
        is("2", x.fault(), 2);
        is("asked once more", x.fault(), 2);
        Due.tell(x, "");
        is("0", x.fault(), 0);
    }

    private static void theFaultStaysTillTheNextText() {
        RowsColumns x = new RowsColumns();
        Due.tell(x, "?");
        Due.put(x, "cloth d;");
        is("fed", x.fault(), 1);
        x.read(0, 0, 0, 1);
        is("read", x.fault(), 1);
        x.text();
        is("told", x.fault(), 0);
    }

    private static void ruleIsOf0To4() {
        RowsColumns x = Due.told("cloth ddd ddd; pattern ddd ddd; day row 1; day row 1; day row 1;");
        int[] due = {2, 3, 1, 3, 4};
        for (int what = 0; what < due.length; what++) {
            is("rule(" + what + ")", x.rule(what), due[what]);
        }
        is("rule(5)", x.rule(5), BAD);
        is("rule(-1)", x.rule(-1), BAD);
        is("most", x.rule(MOST), BAD);
        is("least", x.rule(LEAST), BAD);
    }

    private static void dayIsOfADayThatThereIs() {
        RowsColumns x = Due.told("day row 1; day row 2;");
        is("the last", x.day(1, 0), 2);
        is("behind it", x.day(2, 0), BAD);
        is("behind it, acts", x.day(2, -1), BAD);
        is("ahead", x.day(-1, 0), BAD);
        is("ahead, acts", x.day(-1, -1), BAD);
        is("most", x.day(MOST, -1), BAD);
        is("least", x.day(LEAST, -1), BAD);
    }

    private static void dayIsOfAnActThatThereIs() {
        RowsColumns x = Due.told("day row 1 row 2; day row 3 row 1 row 2;");
        is("acts", x.day(0, -1), 2);
        is("the last", x.day(0, 1), 2);
        is("behind it", x.day(0, 2), BAD);
        is("behind three", x.day(1, 3), BAD);
        is("below -1", x.day(0, -2), BAD);
        is("most", x.day(0, MOST), BAD);
        is("least", x.day(0, LEAST), BAD);
    }

    private static void dayTellsTheKindTimes20AndTheNumber() {
        RowsColumns x = Due.told("cloth" + EIGHT_ROWS + "; day row 0 row 7; day column 0 column 7; day slant 0 slant 14;");
        int[] due = {0, 7, 20, 27, 40, 54};
        for (int i = 0; i < due.length; i++) {
            is("day(" + i / 2 + ", " + i % 2 + ")", x.day(i / 2, i % 2), due[i]);
        }
    }

    public static void main(String[] args) {
        DUE.every(BoundsTextTest.class);
        DUE.close();
    }
}
