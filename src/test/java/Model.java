import java.util.ArrayList;
import java.util.HashSet;
import java.util.List;
import java.util.Set;

/**
 * The document once more, slow and by trying all: squares are booleans, every way is tried.
 * It shares no thought with the program, so that both are wrong alike only by misreading.
 */
final class Model {
    boolean[][] cloth = new boolean[4][4];
    boolean[][] pattern = null;
    List<List<int[]>> days = new ArrayList<>();
    final boolean[][][] images = new boolean[2][][];
    final long[][] cells = new long[4][];
    final int[] lanes = new int[4];
    final List<Byte> tape = new ArrayList<>();
    int fault = 0;
    int torn = 0;

    int high() {
        return cloth.length;
    }

    int wide() {
        return cloth[0].length;
    }

    // ---- squares

    static boolean[][] copy(boolean[][] a) {
        boolean[][] b = new boolean[a.length][];
        for (int r = 0; r < a.length; r++) {
            b[r] = a[r].clone();
        }
        return b;
    }

    static int dark(boolean[][] a) {
        return unlike(a, new boolean[a.length][a[0].length]);
    }

    static int unlike(boolean[][] a, boolean[][] b) {
        int n = 0;
        for (int r = 0; r < a.length; r++) {
            for (int c = 0; c < a[0].length; c++) {
                n += a[r][c] != b[r][c] ? 1 : 0;
            }
        }
        return n;
    }

    static long set(boolean[][] a) {
        long s = 0;
        for (int r = 0; r < a.length; r++) {
            for (int c = 0; c < a[0].length; c++) {
                s += a[r][c] ? 1L << 8 * r + c : 0;
            }
        }
        return s;
    }

    static boolean same(boolean[][] a, boolean[][] b) {
        return a.length == b.length && a[0].length == b[0].length;
    }

    static boolean isAct(boolean[][] a, long kind, long i) {
        long h = a.length, w = a[0].length;
        return i >= 0 && (kind == 0 && i < h || kind == 1 && i < w || kind == 2 && i <= h + w - 2);
    }

    static void doAct(boolean[][] a, long kind, long i) {
        for (int r = 0; r < a.length; r++) {
            for (int c = 0; c < a[0].length; c++) {
                boolean hit = kind == 0 ? r == i : kind == 1 ? c == i : r + c == i;
                a[r][c] ^= hit;
            }
        }
    }

    static boolean[][] by(boolean[][] a, int rows, int columns) {
        boolean[][] b = copy(a);
        for (int r = 0; r < a.length; r++) {
            for (int c = 0; c < a[0].length; c++) {
                b[r][c] ^= (rows >> r & 1) != (columns >> c & 1);
            }
        }
        return b;
    }

    /** Of each rectangle with the corner square as many are unlike as is even: just then rows and columns do it. */
    static boolean becomes(boolean[][] a, boolean[][] b) {
        for (int r = 0; r < a.length; r++) {
            for (int c = 0; c < a[0].length; c++) {
                int n = 0;
                n += a[0][0] != b[0][0] ? 1 : 0;
                n += a[r][0] != b[r][0] ? 1 : 0;
                n += a[0][c] != b[0][c] ? 1 : 0;
                n += a[r][c] != b[r][c] ? 1 : 0;
                if (n % 2 != 0) {
                    return false;
                }
            }
        }
        return true;
    }

    static long formOf(boolean[][] a) {
        for (int rows = 0; rows < 1 << a.length; rows++) {
            for (int columns = 0; columns < 1 << a[0].length; columns++) {
                boolean light = true;
                for (int r = 0; r < a.length && light; r++) {
                    light = a[r][0] == ((rows >> r & 1) != (columns & 1));
                }
                for (int c = 0; c < a[0].length && light; c++) {
                    light = a[0][c] == ((rows & 1) != (columns >> c & 1));
                }
                if (light) {
                    return set(by(a, rows, columns));
                }
            }
        }
        throw new IllegalStateException("no form");
    }

    /** Rows, columns of the plan, or null. */
    static int[] planOf(boolean[][] a, boolean[][] b) {
        int[] best = null;
        for (int rows = 0; rows < 1 << a.length; rows++) {
            for (int columns = 0; columns < 1 << a[0].length; columns++) {
                if (unlikeBy(a, b, rows, columns, 1) == 0) {
                    int[] way = {rows, columns};
                    best = best == null || bits(way) < bits(best) ? way : best;
                }
            }
        }
        return best;
    }

    /** Unlike squares, counted no further than to an end. */
    static int unlikeBy(boolean[][] a, boolean[][] b, int rows, int columns, int end) {
        int n = 0;
        for (int r = 0; r < a.length; r++) {
            for (int c = 0; c < a[0].length && n < end; c++) {
                n += a[r][c] ^ (rows >> r & 1) != (columns >> c & 1) ^ b[r][c] ? 1 : 0;
            }
        }
        return n;
    }

    static int bits(int[] way) {
        int n = 0;
        for (int w : way) {
            n += Integer.bitCount(w);
        }
        return n;
    }

    static int[] nearestOf(boolean[][] a, boolean[][] b) {
        int[] best = {Integer.MAX_VALUE, 0, 0};
        for (int rows = 0; rows < 1 << a.length; rows++) {
            for (int columns = 0; columns < 1 << a[0].length; columns++) {
                int n = unlikeBy(a, b, rows, columns, best[0]);
                if (n < best[0]) {
                    best = new int[] {n, rows, columns};
                }
            }
        }
        return best;
    }

    static boolean[][] right(boolean[][] a) {
        boolean[][] b = new boolean[a[0].length][a.length];
        for (int r = 0; r < a.length; r++) {
            for (int c = 0; c < a[0].length; c++) {
                b[c][a.length - 1 - r] = a[r][c];
            }
        }
        return b;
    }

    static boolean[][] mirrored(boolean[][] a) {
        boolean[][] b = copy(a);
        for (int r = 0; r < a.length; r++) {
            for (int c = 0; c < a[0].length; c++) {
                b[r][a[0].length - 1 - c] = a[r][c];
            }
        }
        return b;
    }

    static boolean[][] turning(boolean[][] a, int t) {
        boolean[][] b = t > 3 ? mirrored(a) : copy(a);
        for (int i = 0; i < t % 4; i++) {
            b = right(b);
        }
        return b;
    }

    /** Form, turning, rows, columns. */
    static long[] nameOf(boolean[][] a) {
        long[] best = null;
        for (int t = 0; t < 8; t++) {
            boolean[][] b = turning(a, t);
            if (b.length <= b[0].length) {
                long f = formOf(b);
                if (best == null || f < best[0]) {
                    best = new long[] {f, t, b.length, b[0].length};
                }
            }
        }
        return best;
    }

    // ---- the text

    int feed(long v) {
        if (tape.size() + 8 > 320) {
            return -3;
        }
        for (int i = 7; i >= 0; i--) {
            tape.add((byte) (v >>> 8 * i));
        }
        return tape.size();
    }

    int end(int n) {
        int had = tape.size();
        if (n < 0 || n > had) {
            return -1;
        }
        while (tape.size() > n) {
            tape.remove(tape.size() - 1);
        }
        return had;
    }

    int text() {
        ModelText read = new ModelText(tape);
        tape.clear();
        fault = read.fault;
        if (fault != 0) {
            return -10 - read.place;
        }
        cloth = read.cloth == null ? new boolean[4][4] : read.cloth;
        pattern = read.pattern;
        days = read.days;
        images[0] = null;
        images[1] = null;
        return read.lines;
    }

    int rule(int what) {
        return switch (what) {
            case 0 -> high();
            case 1 -> wide();
            case 2 -> pattern == null ? 0 : 1;
            case 3 -> days.size();
            case 4 -> high() + wide() - 1;
            default -> -1;
        };
    }

    int day(int d, int i) {
        if (d < 0 || d >= days.size() || i < -1 || i >= days.get(d).size()) {
            return -1;
        }
        return i == -1 ? days.get(d).size() : days.get(d).get(i)[0] * 20 + days.get(d).get(i)[1];
    }

    // ---- the cloth

    long cloth(int of) {
        return of == 0 ? set(cloth) : of == 1 && pattern != null ? set(pattern) : 0;
    }

    boolean noSquare(int r, int c) {
        return r < 0 || c < 0 || r >= high() || c >= wide();
    }

    int square(int r, int c) {
        return noSquare(r, c) ? -1 : cloth[r][c] ? 1 : 0;
    }

    int paint(int r, int c, boolean dark) {
        int was = square(r, c);
        if (was >= 0) {
            cloth[r][c] = dark;
        }
        return was;
    }

    int wish(int r, int c, boolean dark) {
        if (noSquare(r, c)) {
            return -1;
        }
        if (pattern == null) {
            return -2;
        }
        int was = pattern[r][c] ? 1 : 0;
        pattern[r][c] = dark;
        return was;
    }

    int act(int kind, int i) {
        if (!isAct(cloth, kind, i)) {
            return -1;
        }
        doAct(cloth, kind, i);
        return dark(cloth);
    }

    int turn(int rows, int columns) {
        if (rows < 0 || columns < 0 || rows >= 1 << high() || columns >= 1 << wide()) {
            return -1;
        }
        cloth = by(cloth, rows, columns);
        return dark(cloth);
    }

    int go(int n) {
        if (n < 0 || n > days.size()) {
            return -1;
        }
        for (List<int[]> day : days.subList(0, n)) {
            for (int[] a : day) {
                doAct(cloth, a[0], a[1]);
            }
        }
        return dark(cloth);
    }

    // ---- forms

    long form(int of) {
        return of == 0 ? formOf(cloth) : of == 1 && pattern != null ? formOf(pattern) : -1;
    }

    long forms() {
        long n = 1;
        for (int i = 0; i < (high() - 1) * (wide() - 1); i++) {
            n *= 2;
        }
        return n;
    }

    int alike(int k) {
        if (k != 0 && k != 1) {
            return -1;
        }
        return images[k] == null ? -2 : same(images[k], cloth) && becomes(cloth, images[k]) ? 1 : 0;
    }

    int plan(int what) {
        if (what < 0 || what > 3) {
            return -1;
        }
        if (pattern == null) {
            return -2;
        }
        int[] way = planOf(cloth, pattern);
        if (way == null) {
            return -4;
        }
        int days = Math.max(Integer.bitCount(way[0]), Integer.bitCount(way[1]));
        return what == 0 ? bits(way) : what == 3 ? days : way[what - 1];
    }

    int nearest(int what) {
        return what < 0 || what > 2 ? -1 : pattern == null ? -2 : nearestOf(cloth, pattern)[what];
    }

    int lightest(int what) {
        return what < 0 || what > 2 ? -1 : nearestOf(cloth, new boolean[high()][wide()])[what];
    }

    int blind(int what) {
        if (what < 0 || what > 1) {
            return -1;
        }
        if (pattern == null) {
            return -2;
        }
        boolean[][] a = copy(cloth);
        for (int day = 0; day <= 60; day++) {
            if (unlike(a, pattern) == 0) {
                return what == 0 ? day : 0;
            }
            if (day < 60) {
                int row = mostUnlike(a, pattern);
                int column = mostUnlike(across(a), across(pattern));
                doAct(a, 0, row);
                doAct(a, 1, column);
            }
        }
        return what == 0 ? -4 : unlike(a, pattern);
    }

    static boolean[][] across(boolean[][] a) {
        boolean[][] b = new boolean[a[0].length][a.length];
        for (int r = 0; r < a.length; r++) {
            for (int c = 0; c < a[0].length; c++) {
                b[c][r] = a[r][c];
            }
        }
        return b;
    }

    static int mostUnlike(boolean[][] a, boolean[][] b) {
        int best = -1, most = 0;
        for (int r = a.length - 1; r >= 0; r--) {
            int n = 0;
            for (int c = 0; c < a[0].length; c++) {
                n += a[r][c] != b[r][c] ? 1 : 0;
            }
            if (n > a[0].length - n && n >= most) {
                best = r;
                most = n;
            }
        }
        return best;
    }

    // ---- slants

    static long line(int h, int w, int kind, int i) {
        boolean[][] a = new boolean[h][w];
        doAct(a, kind, i);
        return set(a);
    }

    /** What is made of a kind of lines, for each choice of them as bits. */
    static long[] made(int h, int w, int kind, int n) {
        long[] made = new long[1 << n];
        for (int i = 0; i < n; i++) {
            for (int m = 0; m < 1 << i; m++) {
                made[m | 1 << i] = made[m] ^ line(h, w, kind, i);
            }
        }
        return made;
    }

    int slanted(int what) {
        if (what < 0 || what > 3) {
            return -1;
        }
        if (pattern == null || high() + wide() > 10) {
            return -2;
        }
        long[] rows = made(high(), wide(), 0, high());
        long[] columns = made(high(), wide(), 1, wide());
        long[] slants = made(high(), wide(), 2, high() + wide() - 1);
        long wanted = set(cloth) ^ set(pattern);
        int[] best = null;
        for (int r = 0; r < rows.length; r++) {
            for (int c = 0; c < columns.length; c++) {
                for (int s = 0; s < slants.length; s++) {
                    if ((rows[r] ^ columns[c] ^ slants[s]) == wanted) {
                        int[] way = {r, c, s};
                        best = best == null || bits(way) < bits(best) ? way : best;
                    }
                }
            }
        }
        return best == null ? -4 : what == 0 ? bits(best) : best[what - 1];
    }

    /** All that can be made is made, as long as it is not too much; else the lines are told apart by elimination. */
    int power(int what) {
        if (what != 0 && what != 1) {
            return -1;
        }
        List<Long> lines = new ArrayList<>();
        for (int kind = 0; kind <= what + 1; kind++) {
            for (int i = 0; isAct(cloth, kind, i); i++) {
                lines.add(line(high(), wide(), kind, i));
            }
        }
        if (high() + wide() > 7) {
            int rank = 0;
            for (int bit = 0; bit < 64; bit++) {
                Long with = null;
                for (Long l : lines) {
                    with = with == null && (l >>> bit & 1) != 0 ? l : with;
                }
                if (with != null) {
                    rank++;
                    List<Long> rest = new ArrayList<>();
                    for (Long l : lines) {
                        rest.add((l >>> bit & 1) != 0 ? l ^ with : l);
                    }
                    lines = rest;
                }
            }
            return rank;
        }
        Set<Long> made = new HashSet<>();
        made.add(set(cloth));
        for (long l : lines) {
            Set<Long> more = new HashSet<>(made);
            for (long m : made) {
                more.add(m ^ l);
            }
            made = more;
        }
        int power = 0;
        while (1 << power < made.size()) {
            power++;
        }
        return power;
    }

    // ---- at odds

    int duel(int n, boolean sheFirst, int what) {
        return n < 1 || n > 4 || what < 0 || what > 1 ? -1 : duelOf(cloth, n, sheFirst)[what];
    }

    static int[] duelOf(boolean[][] a, int n, boolean she) {
        if (n == 0) {
            return new int[] {dark(a), 8};
        }
        int[] best = null;
        for (int i = 0; i <= 8; i++) {
            if (i == 8 || isAct(a, she ? 0 : 1, i)) {
                boolean[][] b = copy(a);
                if (i < 8) {
                    doAct(b, she ? 0 : 1, i);
                }
                int end = duelOf(b, n - 1, !she)[0];
                if (best == null || (she ? end > best[0] : end < best[0])) {
                    best = new int[] {end, i};
                }
            }
        }
        return best;
    }

    // ---- what was turned, spoilt

    int turned(int k, int what) {
        if (k < 0 || k > 1 || what < 0 || what > 2) {
            return -1;
        }
        if (images[k] == null || !same(images[k], cloth)) {
            return -2;
        }
        int[] way = planOf(images[k], cloth);
        return way == null ? -4 : what == 0 ? bits(way) : way[what - 1];
    }

    int spoilt(int what) {
        if (what < 0 || what > 1) {
            return -1;
        }
        if (pattern == null) {
            return -2;
        }
        int many = 0, first = -4;
        for (int s = 63; s >= 0; s--) {
            if (!noSquare(s / 8, s % 8)) {
                boolean[][] a = copy(cloth);
                a[s / 8][s % 8] ^= true;
                if (becomes(a, pattern)) {
                    many++;
                    first = s;
                }
            }
        }
        return what == 0 ? many : first;
    }

    int both(int what) {
        if (what < 0 || what > 1) {
            return -1;
        }
        if (pattern == null) {
            return -2;
        }
        int many = 0, first = -4;
        for (int s = 0; s < 64; s++) {
            for (int t = s + 1; t < 64; t++) {
                if (!noSquare(s / 8, s % 8) && !noSquare(t / 8, t % 8)) {
                    boolean[][] a = copy(cloth);
                    a[s / 8][s % 8] ^= true;
                    a[t / 8][t % 8] ^= true;
                    if (becomes(a, pattern)) {
                        many++;
                        first = many == 1 ? 64 * s + t : first;
                    }
                }
            }
        }
        return what == 0 ? many : first;
    }

    // ---- turned, cut, sewn

    private void forget() {
        pattern = null;
        days = new ArrayList<>();
    }

    int rotate(int t) {
        if (t < 0 || t > 7) {
            return -1;
        }
        cloth = turning(cloth, t);
        pattern = pattern == null ? null : turning(pattern, t);
        days = new ArrayList<>();
        return high();
    }

    int cut(int r, int rows, int c, int columns) {
        if (r < 0 || c < 0 || rows < 1 || columns < 1 || (long) r + rows > high() || (long) c + columns > wide()) {
            return -1;
        }
        boolean[][] a = new boolean[rows][columns];
        for (int i = 0; i < rows; i++) {
            for (int j = 0; j < columns; j++) {
                a[i][j] = cloth[r + i][c + j];
            }
        }
        cloth = a;
        forget();
        return dark(cloth);
    }

    int sew(int k, boolean below) {
        if (k != 0 && k != 1) {
            return -1;
        }
        boolean[][] b = images[k];
        if (b == null || (below ? b[0].length != wide() : b.length != high())) {
            return -2;
        }
        int h = below ? high() + b.length : high();
        int w = below ? wide() : wide() + b[0].length;
        if (h > 8 || w > 8) {
            return -3;
        }
        boolean[][] a = new boolean[h][w];
        for (int r = 0; r < h; r++) {
            for (int c = 0; c < w; c++) {
                a[r][c] = r < high() && c < wide() ? cloth[r][c] : below ? b[r - high()][c] : b[r][c - wide()];
            }
        }
        cloth = a;
        forget();
        return dark(cloth);
    }

    long name(int what) {
        return what == 0 || what == 1 ? nameOf(cloth)[what] : -1;
    }

    int cousin(int k) {
        if (k != 0 && k != 1) {
            return -1;
        }
        if (images[k] == null) {
            return -2;
        }
        long[] a = nameOf(cloth), b = nameOf(images[k]);
        return a[0] == b[0] && a[2] == b[2] && a[3] == b[3] ? 1 : 0;
    }

    // ---- images, sheets

    int keep(int k) {
        if (k != 0 && k != 1) {
            return -1;
        }
        int was = images[k] == null ? 0 : 1;
        images[k] = copy(cloth);
        return was;
    }

    int back(int k) {
        if (k != 0 && k != 1) {
            return -1;
        }
        if (images[k] == null) {
            return -2;
        }
        if (!same(images[k], cloth)) {
            forget();
        }
        cloth = copy(images[k]);
        return dark(cloth);
    }

    int sheet(int k, int lane, int n) {
        if (k < 0 || k > 3 || lane < 0 || lane > 2 || n > 40) {
            return -1;
        }
        if (n < 0) {
            return -14;
        }
        cells[k] = new long[n];
        lanes[k] = lane;
        return 1;
    }

    int lay(int k, int i, int v) {
        if (k < 0 || k > 3) {
            return -1;
        }
        if (cells[k] == null) {
            return -11;
        }
        if (i < 0 || i >= cells[k].length) {
            return -12;
        }
        int lost = lanes[k] == 0 ? 24 : lanes[k] == 1 ? 16 : 0;
        cells[k][i] = v << lost >> lost;
        return 1;
    }

    int read(int k, int lane, int f, int n) {
        if (k < 0 || k > 3 || lane < 0 || lane > 2 || n < 0 || n > 20) {
            return -1;
        }
        int found = 0;
        List<long[]> acts = new ArrayList<>();
        for (int i = 0; i < n && found == 0; i++) {
            long a = f + 2L * i, b = a + 1;
            if (cells[k] == null) {
                found = 1;
            } else if (lanes[k] != lane) {
                found = 3;
            } else if (a < 0 || a >= cells[k].length || b >= cells[k].length) {
                found = 2;
            } else {
                acts.add(new long[] {cells[k][(int) a], cells[k][(int) b]});
            }
        }
        for (int i = 0; i < acts.size(); i++) {
            if (!isAct(cloth, acts.get(i)[0], acts.get(i)[1])) {
                return -20 - i;
            }
        }
        for (long[] a : acts) {
            doAct(cloth, a[0], a[1]);
        }
        torn = found;
        return acts.size();
    }

    int count(int what) {
        return switch (what) {
            case 0 -> dark(cloth);
            case 1 -> high() * wide();
            case 2 -> pattern == null ? -4 : unlike(cloth, pattern);
            case 3 -> (images[0] == null ? 0 : 1) + (images[1] == null ? 0 : 1);
            case 4 -> tape.size();
            case 5 -> cells[0] == null ? -4 : cells[0].length;
            default -> -1;
        };
    }
}
