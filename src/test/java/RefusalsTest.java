import java.util.function.Consumer;
import java.util.function.ToLongFunction;

/**
 * "The first that fits; what is refused changes nothing": every refusal of every call, with all that the object
 * holds asked behind it; that a question changes nothing either; and an object's 512 calls.
 * Every private method here is run.
 */
public final class RefusalsTest {
    private static final int BAD = -1, STATE = -2, FULL = -3, NONE = -4;
    private static final int[] OUT = {-1, Integer.MIN_VALUE, Integer.MAX_VALUE, 99};
    private static final Due DUE = new Due("RefusalsTest");

    private RefusalsTest() {
    }

    /** Sheets of each lane, one of nothing; a fault that was torn; a faulty text; bytes on the tape. */
    private static void sheetsAndTape(RowsColumns x) {
        x.sheet(0, 0, 4);
        x.lay(0, 1, 1);
        x.lay(0, 2, 9);
        x.sheet(1, 2, 3);
        x.lay(1, 0, 1);
        x.sheet(2, 1, 0);
        x.read(0, 1, 0, 1);
        Due.tell(x, "day ?");
        Due.put(x, "cloth dd dl; pattern ll dd; day slant 2");
    }

    /** A pattern that it does not become, days, an image of its size. */
    private static void withPlans(RowsColumns x) {
        Due.tell(x, "cloth ddl lld; pattern ldl ddl; day row 1 column 2; day slant 3;");
        x.keep(0);
        x.act(0, 0);
        x.paint(1, 1, true);
        sheetsAndTape(x);
    }

    /** A pattern, images of another size and of its own; high and wide are more than 10 together. */
    private static void withImages(RowsColumns x) {
        Due.tell(x, "cloth dldldl ldldld dldldl dddddd llllll; pattern dddlll llllll llllll llllll lllldd;");
        x.keep(0);
        x.rotate(1);
        x.keep(1);
        x.paint(2, 2, true);
        sheetsAndTape(x);
    }

    /** No pattern, no images, a full tape. */
    private static void withAFullTape(RowsColumns x) {
        sheetsAndTape(x);
        x.end(0);
        for (int i = 0; i < 40; i++) {
            x.feed(0x2020202020202020L);
        }
    }

    /** 8 by 8, no pattern, an image as great. */
    private static void theGreatest(RowsColumns x) {
        Due.tell(x, "cloth" + " dlddlldl".repeat(8) + ";");
        x.keep(1);
        x.act(2, 7);
        sheetsAndTape(x);
    }

    private static void refused(Consumer<RowsColumns> past, String call, ToLongFunction<RowsColumns> asked, long want) {
        new Twins(DUE, past).same(call, asked, want);
    }

    private interface Asked {
        long of(RowsColumns x, int n);
    }

    /** Refused by the cloth with plans, by that without, whatever else is as told. */
    private static void bad(String call, long want, Asked asked, int... numbers) {
        for (int n : numbers) {
            refused(RefusalsTest::withPlans, call + " of " + n, x -> asked.of(x, n), want);
            refused(RefusalsTest::theGreatest, call + " of " + n, x -> asked.of(x, n), want);
            refused(RefusalsTest::withAFullTape, call + " of " + n, x -> asked.of(x, n), want);
        }
    }

    // ---- what is refused changes nothing

    private static void feedOfAFullTape() {
        refused(RefusalsTest::withAFullTape, "feed", x -> x.feed(0), FULL);
        refused(RefusalsTest::withAFullTape, "feed", x -> x.feed(-1), FULL);
    }

    private static void endOutOfBounds() {
        refused(RefusalsTest::withPlans, "end", x -> x.end(40), BAD);
        refused(RefusalsTest::withAFullTape, "end", x -> x.end(321), BAD);
        bad("end", BAD, (x, n) -> x.end(n), -1, Integer.MIN_VALUE, Integer.MAX_VALUE);
    }

    private static void questionsOutOfBounds() {
        bad("rule", BAD, (x, n) -> x.rule(n), OUT);
        bad("day", BAD, (x, n) -> x.day(n, 0), OUT);
        bad("day's act", BAD, (x, n) -> x.day(0, n == -1 ? -2 : n), OUT);
        bad("cloth", 0, (x, n) -> x.cloth(n), OUT);
        bad("form", BAD, (x, n) -> x.form(n), OUT);
        bad("power", BAD, (x, n) -> x.power(n), OUT);
        bad("lightest", BAD, (x, n) -> x.lightest(n), OUT);
        bad("name", BAD, (x, n) -> x.name(n), OUT);
        bad("count", BAD, (x, n) -> x.count(n), OUT);
        bad("duel's turns", BAD, (x, n) -> x.duel(n, true, 0), OUT);
        bad("duel's what", BAD, (x, n) -> x.duel(2, false, n), OUT);
    }

    private static void squaresOutOfBounds() {
        bad("square's row", BAD, (x, n) -> x.square(n, 0), OUT);
        bad("square's column", BAD, (x, n) -> x.square(0, n), OUT);
        bad("paint's row", BAD, (x, n) -> x.paint(n, 0, true), OUT);
        bad("paint's column", BAD, (x, n) -> x.paint(0, n, true), OUT);
        bad("wish's row", BAD, (x, n) -> x.wish(n, 0, true), OUT);
        bad("wish's column", BAD, (x, n) -> x.wish(0, n, true), OUT);
    }

    private static void actsOutOfBounds() {
        bad("act's kind", BAD, (x, n) -> x.act(n, 0), OUT);
        bad("row", BAD, (x, n) -> x.act(0, n), OUT);
        bad("column", BAD, (x, n) -> x.act(1, n), OUT);
        bad("slant", BAD, (x, n) -> x.act(2, n), OUT);
        bad("turn's rows", BAD, (x, n) -> x.turn(n == 99 ? 256 : n, 1), OUT);
        bad("turn's columns", BAD, (x, n) -> x.turn(1, n == 99 ? 256 : n), OUT);
        bad("go", BAD, (x, n) -> x.go(n), OUT);
    }

    private static void goAboveTheDays() {
        refused(RefusalsTest::withPlans, "go(3)", x -> x.go(3), BAD);
        refused(RefusalsTest::withImages, "go(1)", x -> x.go(1), BAD);
    }

    private static void patternsOutOfBounds() {
        bad("plan", BAD, (x, n) -> x.plan(n), OUT);
        bad("nearest", BAD, (x, n) -> x.nearest(n), OUT);
        bad("blind", BAD, (x, n) -> x.blind(n), OUT);
        bad("slanted", BAD, (x, n) -> x.slanted(n), OUT);
        bad("spoilt", BAD, (x, n) -> x.spoilt(n), OUT);
        bad("both", BAD, (x, n) -> x.both(n), OUT);
    }

    private static void imagesOutOfBounds() {
        bad("alike", BAD, (x, n) -> x.alike(n), OUT);
        bad("turned", BAD, (x, n) -> x.turned(n, 0), OUT);
        bad("turned's what", BAD, (x, n) -> x.turned(0, n), OUT);
        bad("sew", BAD, (x, n) -> x.sew(n, false), OUT);
        bad("sew below", BAD, (x, n) -> x.sew(n, true), OUT);
        bad("cousin", BAD, (x, n) -> x.cousin(n), OUT);
        bad("keep", BAD, (x, n) -> x.keep(n), OUT);
        bad("back", BAD, (x, n) -> x.back(n), OUT);
    }

    private static void shapesOutOfBounds() {
        bad("rotate", BAD, (x, n) -> x.rotate(n), OUT);
        bad("cut's first row", BAD, (x, n) -> x.cut(n, 1, 0, 1), OUT);
        bad("cut's rows", BAD, (x, n) -> x.cut(0, n, 0, 1), OUT);
        bad("cut's first column", BAD, (x, n) -> x.cut(0, 1, n, 1), OUT);
        bad("cut's columns", BAD, (x, n) -> x.cut(0, 1, 0, n), OUT);
        bad("cut of none", BAD, (x, n) -> x.cut(0, n, 0, 1), 0);
    }

    private static void sheetsOutOfBounds() {
        bad("sheet", BAD, (x, n) -> x.sheet(n, 0, 1), OUT);
        bad("sheet's lane", BAD, (x, n) -> x.sheet(0, n, 1), OUT);
        bad("sheet's cells", BAD, (x, n) -> x.sheet(0, 0, n), 41, Integer.MAX_VALUE);
        bad("sheet's cells below 0", -14, (x, n) -> x.sheet(0, 0, n), -1, Integer.MIN_VALUE);
        bad("lay", BAD, (x, n) -> x.lay(n, 0, 1), OUT);
        bad("lay on nothing", -11, (x, n) -> x.lay(3, n, 1), 0, -1, 99);
        bad("lay beside", -12, (x, n) -> x.lay(0, n, 1), OUT);
        bad("read", BAD, (x, n) -> x.read(n, 0, 0, 1), OUT);
        bad("read's lane", BAD, (x, n) -> x.read(0, n, 0, 1), OUT);
        bad("read's acts", BAD, (x, n) -> x.read(0, 0, 0, n), OUT);
        bad("a BAD act", -21, (x, n) -> x.read(0, 0, 0, n), 2, 3, 20);
    }

    private static void withoutAPattern() {
        for (int what = 0; what < 2; what++) {
            int w = what;
            refused(RefusalsTest::theGreatest, "plan", x -> x.plan(w), STATE);
            refused(RefusalsTest::theGreatest, "nearest", x -> x.nearest(w), STATE);
            refused(RefusalsTest::theGreatest, "blind", x -> x.blind(w), STATE);
            refused(RefusalsTest::theGreatest, "slanted", x -> x.slanted(w), STATE);
            refused(RefusalsTest::theGreatest, "spoilt", x -> x.spoilt(w), STATE);
            refused(RefusalsTest::theGreatest, "both", x -> x.both(w), STATE);
        }
        refused(RefusalsTest::theGreatest, "wish", x -> x.wish(0, 0, true), STATE);
        refused(RefusalsTest::theGreatest, "form", x -> x.form(1), BAD);
        refused(RefusalsTest::theGreatest, "cloth", x -> x.cloth(1), 0);
        refused(RefusalsTest::theGreatest, "count", x -> x.count(2), NONE);
    }

    private static void withoutAnImage() {
        refused(RefusalsTest::withPlans, "alike", x -> x.alike(1), STATE);
        refused(RefusalsTest::withPlans, "turned", x -> x.turned(1, 0), STATE);
        refused(RefusalsTest::withPlans, "sew", x -> x.sew(1, false), STATE);
        refused(RefusalsTest::withPlans, "sew below", x -> x.sew(1, true), STATE);
        refused(RefusalsTest::withPlans, "cousin", x -> x.cousin(1), STATE);
        refused(RefusalsTest::withPlans, "back", x -> x.back(1), STATE);
    }

    private static void withAnImageOfAnotherSize() {
        refused(RefusalsTest::withImages, "turned", x -> x.turned(0, 0), STATE);
        refused(RefusalsTest::withImages, "sew", x -> x.sew(0, false), STATE);
        refused(RefusalsTest::withImages, "sew below", x -> x.sew(0, true), STATE);
        refused(RefusalsTest::withImages, "alike", x -> x.alike(0), 0);
    }

    private static void moreThan8Together() {
        refused(RefusalsTest::theGreatest, "sew", x -> x.sew(1, false), FULL);
        refused(RefusalsTest::theGreatest, "sew below", x -> x.sew(1, true), FULL);
        refused(RefusalsTest::withImages, "sew", x -> x.sew(1, false), FULL);
        refused(RefusalsTest::withImages, "sew below", x -> x.sew(1, true), FULL);
    }

    private static void moreThan10Together() {
        for (int what = 0; what < 4; what++) {
            int w = what;
            refused(RefusalsTest::withImages, "slanted", x -> x.slanted(w), STATE);
        }
    }

    private static void whatThereIsNot() {
        for (int what = 0; what < 3; what++) {
            int w = what;
            refused(RefusalsTest::withPlans, "plan", x -> x.plan(w), NONE);
            refused(RefusalsTest::withPlans, "turned", x -> x.turned(0, w), NONE);
        }
        refused(RefusalsTest::withPlans, "blind", x -> x.blind(0), NONE);
        refused(RefusalsTest::withImages, "spoilt", x -> x.spoilt(1), NONE);
        refused(RefusalsTest::withImages, "both", x -> x.both(1), NONE);
    }

    // ---- the first that fits

    private static void badIsAheadOfState() {
        RowsColumns x = new RowsColumns();
        DUE.is("wish", x.wish(4, 0, true), BAD);
        DUE.is("plan", x.plan(4), BAD);
        DUE.is("nearest", x.nearest(3), BAD);
        DUE.is("blind", x.blind(2), BAD);
        DUE.is("slanted", x.slanted(4), BAD);
        DUE.is("turned", x.turned(0, 3), BAD);
        DUE.is("spoilt", x.spoilt(2), BAD);
        DUE.is("both", x.both(2), BAD);
    }

    private static void badIsAheadOfNone() {
        RowsColumns x = Due.wished(3, 3, 0, 1);
        x.keep(0);
        x.paint(1, 1, true);
        DUE.is("plan", x.plan(4), BAD);
        DUE.is("blind", x.blind(2), BAD);
        DUE.is("turned", x.turned(0, 3), BAD);
        DUE.is("spoilt", x.spoilt(2), BAD);
        DUE.is("both", x.both(-1), BAD);
    }

    private static void stateIsAheadOfFull() {
        RowsColumns x = Due.cloth(8, 7, 0);
        x.keep(0);
        x.cut(0, 7, 0, 7);
        x.keep(1);
        DUE.is("not as high", x.sew(0, false), STATE);
        DUE.is("as wide", x.sew(0, true), FULL);
        x.back(0);
        DUE.is("not as high", x.sew(1, false), STATE);
        DUE.is("as wide", x.sew(1, true), FULL);
    }

    private static void stateIsAheadOfNone() {
        RowsColumns x = Due.wished(6, 5, 0, 2);
        DUE.is("more than 10 together", x.slanted(0), STATE);
        x.keep(0);
        x.paint(1, 1, true);
        x.rotate(1);
        DUE.is("another size", x.turned(0, 0), STATE);
    }

    // ---- questions change nothing

    private static void everyQuestion(Consumer<RowsColumns> past) {
        Asked[] all = {(x, n) -> x.rule(n), (x, n) -> x.day(n, -1), (x, n) -> x.cloth(n), (x, n) -> x.square(n, n),
            (x, n) -> x.form(n), (x, n) -> x.forms(), (x, n) -> x.alike(n), (x, n) -> x.plan(n), (x, n) -> x.nearest(n),
            (x, n) -> x.lightest(n), (x, n) -> x.blind(n), (x, n) -> x.slanted(n), (x, n) -> x.power(n),
            (x, n) -> x.duel(3, true, n), (x, n) -> x.duel(2, false, n), (x, n) -> x.turned(0, n),
            (x, n) -> x.turned(1, n), (x, n) -> x.spoilt(n), (x, n) -> x.both(n), (x, n) -> x.name(n),
            (x, n) -> x.cousin(n), (x, n) -> x.count(n), (x, n) -> x.fault(), (x, n) -> x.torn()};
        for (int i = 0; i < all.length; i++) {
            for (int n = 0; n < 4; n++) {
                RowsColumns y = new RowsColumns();
                past.accept(y);
                Asked asked = all[i];
                int number = n;
                refused(past, "question " + i + " of " + n, x -> asked.of(x, number), asked.of(y, number));
            }
        }
    }

    private static void everyQuestionOfAClothWithPlans() {
        everyQuestion(RefusalsTest::withPlans);
    }

    private static void everyQuestionOfAClothWithImages() {
        everyQuestion(RefusalsTest::withImages);
    }

    private static void everyQuestionOfTheGreatest() {
        everyQuestion(RefusalsTest::theGreatest);
    }

    private static void whatTurnsNothingChangesNothing() {
        refused(RefusalsTest::withPlans, "turn(0, 0)", x -> x.turn(0, 0), 3);
        refused(RefusalsTest::withPlans, "turn(all, all)", x -> x.turn(3, 7), 3);
        refused(RefusalsTest::withPlans, "go(0)", x -> x.go(0), 3);
        refused(RefusalsTest::withPlans, "end(39)", x -> x.end(39), 39);
    }

    // ---- an object is used for at most 512 calls

    private static void the512thCallIsStillAsTold() {
        RowsColumns x = new RowsColumns();
        for (int i = 1; i < 512; i++) {
            DUE.is("call " + i, x.act(0, 0), i % 2 == 0 ? 0 : 4);
        }
        DUE.is("call 512", x.act(0, 0), 0);
    }

    private static void textsFor512Calls() {
        RowsColumns x = new RowsColumns();
        for (int i = 0; i < 170; i++) {
            DUE.is("feed of round " + i, x.feed(0x636c6f746820643bL), 8);
            DUE.is("text of round " + i, x.text(), 1);
            DUE.is("keep of round " + i, x.keep(0), 0);
        }
        DUE.is("call 511", x.cloth(0), 1);
        DUE.is("call 512", x.count(3), 1);
    }

    private static void shapesFor512Calls() {
        RowsColumns x = new RowsColumns();
        x.paint(0, 0, true);
        x.keep(0);
        for (int i = 0; i < 127; i++) {
            DUE.is("sew of round " + i, x.sew(0, true), 2);
            DUE.is("rotate of round " + i, x.rotate(1), 4);
            DUE.is("name of round " + i, x.name(1) >= 0 ? 1 : 0, 1);
            DUE.is("back of round " + i, x.back(0), 1);
        }
        DUE.is("call 511", x.cloth(0), 1);
        DUE.is("call 512", x.count(1), 16);
    }

    private static void dearCallsFor512Calls() {
        RowsColumns x = Due.wished(5, 5, 0, 1L << 36);
        for (int i = 0; i < 120; i++) {
            DUE.is("slanted of round " + i, x.slanted(0), 1);
            DUE.is("both of round " + i, x.both(0), 0);
            DUE.is("duel of round " + i, x.duel(4, true, 1), 0);
            DUE.is("nearest of round " + i, x.nearest(0), 1);
        }
    }

    public static void main(String[] args) {
        DUE.every(RefusalsTest.class);
        DUE.close();
    }
}
