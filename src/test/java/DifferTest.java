/** Long runs of calls on the program and on the model, drawn by a fixed row of numbers: each answer must be alike. */
public final class DifferTest {
    private static final int CALLS = 512;
    private static final int[] ODD = {-1, 8, 40, 41, -2, 99, Integer.MIN_VALUE, Integer.MAX_VALUE, 1 << 30, 255, 256};
    private static final String[] WORDS = {"cloth", "pattern", "day", "row", "column", "slant", ";", ";", "0", "3", "7",
        "8", "14", "15", "100", "d", "l", "dl", "dld", "dddddddd", "ddddddddd", "x", "days", ",", "\u00e9", "\n", "A",
        "{", "`", "/", ":", "<", "\u0000"};

    private final Due due = new Due("DifferTest");
    private long seed;
    private int run;
    private RowsColumns x;
    private Model y;
    private boolean small;

    private int below(int n) {
        seed = seed * 6364136223846793005L + 1442695040888963407L;
        return (int) ((seed >>> 33) % n);
    }

    private boolean flip() {
        return below(2) == 0;
    }

    /** Mostly 0 to n less 1, now and then something odd. */
    private int about(int n) {
        return below(12) == 0 ? ODD[below(ODD.length)] : below(20) == 0 ? n : below(n);
    }

    private void is(String call, long got, long want) {
        due.is("run " + run + ": " + call, got, want);
    }

    private boolean[][] anyCloth(int high, int wide) {
        boolean[][] a = new boolean[high][wide];
        for (boolean[] row : a) {
            for (int c = 0; c < wide; c++) {
                row[c] = flip();
            }
        }
        return a;
    }

    private static String rows(boolean[][] a) {
        StringBuilder text = new StringBuilder();
        for (boolean[] row : a) {
            text.append(' ');
            for (boolean dark : row) {
                text.append(dark ? 'd' : 'l');
            }
        }
        return text.toString();
    }

    /** Another cloth that often can be made of this one, or nearly. */
    private boolean[][] nearTo(boolean[][] a) {
        int high = a.length, wide = a[0].length;
        if (below(4) == 0) {
            return anyCloth(high, wide);
        }
        boolean[][] b = Model.by(a, below(1 << high), below(1 << wide));
        if (below(3) == 0) {
            Model.doAct(b, 2, below(high + wide - 1));
        }
        for (int i = below(3); i > 0; i--) {
            b[below(high)][below(wide)] ^= true;
        }
        return b;
    }

    /** The least and the greatest more often than the others. */
    private int side(int most) {
        return below(5) == 0 ? 1 : below(5) == 0 ? most : 1 + below(most);
    }

    /** A text that is mostly taken. */
    private String goodText() {
        int most = small ? 4 : 8;
        int high = side(most), wide = side(most);
        boolean[][] cloth = anyCloth(high, wide);
        StringBuilder text = new StringBuilder();
        String[] kinds = {"row", "column", "slant"};
        int[] many = {high, wide, high + wide - 1};
        text.append("cloth").append(rows(cloth)).append(';');
        if (below(5) != 0) {
            text.append(" pattern").append(rows(nearTo(cloth))).append(" ; ");
        }
        int lastDay = below(6) == 0 ? 11 + below(3) : below(4);
        for (int d = lastDay; d > 0; d--) {
            text.append("day");
            for (int i = lastDay > 4 ? 1 : 1 + below(3); i > 0; i--) {
                int kind = below(3);
                text.append(' ').append(kinds[kind]).append(flip() ? " " : "").append(below(many[kind]));
            }
            text.append(';');
        }
        return text.toString();
    }

    private String spoiled(String text) {
        int at = below(text.length() + 1);
        int what = below(5);
        if (what == 0) {
            return text.substring(0, at);
        }
        if (what == 1) {
            return text.substring(0, at) + WORDS[below(WORDS.length)] + text.substring(at);
        }
        if (what == 2 && at < text.length()) {
            return text.substring(0, at) + text.substring(at + 1);
        }
        return what == 3 ? text + goodText() : text.substring(0, at) + " " + WORDS[below(WORDS.length)] + " " + text.substring(at);
    }

    private String jumble() {
        StringBuilder text = new StringBuilder();
        for (int i = below(14); i > 0; i--) {
            text.append(WORDS[below(WORDS.length)]).append(flip() ? " " : "");
        }
        return text.toString();
    }

    private void text(String text) {
        byte[] bytes = Due.bytesOf(text);
        for (int i = 0; i < bytes.length; i += 8) {
            long v = Due.eight(bytes, i);
            is("feed(" + v + ")", x.feed(v), y.feed(v));
        }
        int n = Math.min(320, bytes.length);
        is("end(" + n + ")", x.end(n), y.end(n));
        is("text() of \"" + text + "\"", x.text(), y.text());
        is("fault() of \"" + text + "\"", x.fault(), y.fault);
        all();
    }

    /** The whole state, so that what is refused is seen to change nothing. */
    private void all() {
        for (int what = 0; what < 5; what++) {
            is("rule(" + what + ")", x.rule(what), y.rule(what));
        }
        is("cloth(0)", x.cloth(0), y.cloth(0));
        is("cloth(1)", x.cloth(1), y.cloth(1));
        for (int d = 0; d <= y.days.size(); d++) {
            for (int i = -1; i < 3; i++) {
                is("day(" + d + ", " + i + ")", x.day(d, i), y.day(d, i));
            }
        }
        is("torn()", x.torn(), y.torn);
        is("fault()", x.fault(), y.fault);
        for (int what = 0; what < 6; what++) {
            is("count(" + what + ")", x.count(what), y.count(what));
        }
    }

    private void cheap() {
        int a = about(8), b = about(8), c = about(4), d = about(4);
        boolean f = flip();
        switch (below(17)) {
            case 0 -> is("rule(" + c + ")", x.rule(c), y.rule(c));
            case 1 -> is("day(" + c + "," + (d - 1) + ")", x.day(c, d - 1), y.day(c, d - 1));
            case 2 -> is("cloth(" + c + ")", x.cloth(c), y.cloth(c));
            case 3 -> is("square(" + a + "," + b + ")", x.square(a, b), y.square(a, b));
            case 4 -> is("paint(" + a + "," + b + "," + f + ")", x.paint(a, b, f), y.paint(a, b, f));
            case 5 -> is("wish(" + a + "," + b + "," + f + ")", x.wish(a, b, f), y.wish(a, b, f));
            case 6 -> is("act(" + c + "," + a + ")", x.act(c, a), y.act(c, a));
            case 7 -> {
                int rows = about(1 << y.high()), columns = about(1 << y.wide());
                is("turn(" + rows + "," + columns + ")", x.turn(rows, columns), y.turn(rows, columns));
            }
            case 8 -> is("go(" + c + ")", x.go(c), y.go(c));
            case 9 -> is("forms()", x.forms(), y.forms());
            case 10 -> is("count(" + a + ")", x.count(a), y.count(a));
            case 11, 12 -> {
                int n = about(41);
                is("sheet(" + c + "," + d + "," + n + ")", x.sheet(c, d, n), y.sheet(c, d, n));
            }
            case 13, 14 -> sheetOfActs();
            default -> {
                int place = about(41), v = flip() ? below(3) : below(1 << 30) * 4 + below(4);
                is("lay(" + c + "," + place + "," + v + ")", x.lay(c, place, v), y.lay(c, place, v));
            }
        }
    }

    private void sheetOfActs() {
        int k = below(4), lane = below(3), n = below(14), f = about(4);
        is("sheet", x.sheet(k, lane, n), y.sheet(k, lane, n));
        for (int i = 0; i < n; i++) {
            int v = (i & 1) == (f & 1) ? about(3) : below(4) == 0 ? about(8) : below(Math.min(y.high(), y.wide()));
            is("lay", x.lay(k, i, v), y.lay(k, i, v));
        }
        int as = below(6) == 0 ? about(3) : lane;
        int acts = about(1 + n / 2);
        is("read(" + k + "," + as + "," + f + "," + acts + ")", x.read(k, as, f, acts), y.read(k, as, f, acts));
        is("torn()", x.torn(), y.torn);
        is("cloth(0)", x.cloth(0), y.cloth(0));
    }

    private void dear() {
        int k = about(2), what = about(3), of = about(2);
        switch (below(18)) {
            case 0 -> is("form(" + of + ")", x.form(of), y.form(of));
            case 1 -> is("alike(" + k + ")", x.alike(k), y.alike(k));
            case 2, 3 -> is("plan(" + (what + 1) + ")", x.plan(what + 1), y.plan(what + 1));
            case 4 -> is("plan(" + what + ")", x.plan(what), y.plan(what));
            case 5, 6 -> is("nearest(" + what + ")", x.nearest(what), y.nearest(what));
            case 7, 8 -> is("lightest(" + what + ")", x.lightest(what), y.lightest(what));
            case 9 -> is("blind(" + of + ")", x.blind(of), y.blind(of));
            case 10, 11 -> {
                int w = about(4);
                is("slanted(" + w + ")", x.slanted(w), y.slanted(w));
            }
            case 12 -> is("power(" + of + ")", x.power(of), y.power(of));
            case 13 -> {
                int n = about(5);
                boolean f = flip();
                is("duel(" + n + "," + f + "," + of + ")", x.duel(n, f, of), y.duel(n, f, of));
            }
            case 14, 15 -> is("turned(" + k + "," + what + ")", x.turned(k, what), y.turned(k, what));
            case 16 -> is("spoilt(" + of + ")", x.spoilt(of), y.spoilt(of));
            default -> is("both(" + of + ")", x.both(of), y.both(of));
        }
    }

    private void shape() {
        int k = about(2);
        boolean f = flip();
        switch (below(8)) {
            case 0 -> {
                int t = about(8);
                is("rotate(" + t + ")", x.rotate(t), y.rotate(t));
            }
            case 1 -> {
                int r = about(4), rows = 1 + about(4), c = about(4), columns = 1 + about(4);
                String call = "cut(" + r + "," + rows + "," + c + "," + columns + ")";
                is(call, x.cut(r, rows, c, columns), y.cut(r, rows, c, columns));
            }
            case 2, 3 -> is("sew(" + k + "," + f + ")", x.sew(k, f), y.sew(k, f));
            case 4 -> is("name(" + k + ")", x.name(k), y.name(k));
            case 5 -> is("cousin(" + k + ")", x.cousin(k), y.cousin(k));
            case 6 -> is("keep(" + k + ")", x.keep(k), y.keep(k));
            default -> is("back(" + k + ")", x.back(k), y.back(k));
        }
        all();
    }

    private void tape() {
        switch (below(4)) {
            case 0 -> {
                int n = about(9);
                is("end(" + n + ")", x.end(n), y.end(n));
            }
            case 1 -> {
                long v = below(1 << 30) * 17179869184L + below(1 << 30);
                for (int i = below(45); i > 0; i--) {
                    is("feed", x.feed(v), y.feed(v));
                }
                is("end(0)", x.end(0), y.end(0));
            }
            case 2 -> text(spoiled(goodText()));
            default -> text(jumble());
        }
    }

    private void run(int number, boolean smallOnes) {
        run = number;
        seed = number;
        small = smallOnes;
        x = new RowsColumns();
        y = new Model();
        all();
        for (int i = 0; i < CALLS; i++) {
            int which = below(30);
            if (which == 0) {
                text(goodText());
            } else if (which == 1) {
                tape();
            } else if (which < 6) {
                shape();
            } else if (which < 16) {
                cheap();
            } else {
                dear();
            }
        }
        all();
    }

    public static void main(String[] args) {
        DifferTest test = new DifferTest();
        for (int number = 1; number <= 160; number++) {
            test.run(number, number % 8 != 0);
        }
        test.due.close();
    }
}
