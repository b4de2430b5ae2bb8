import java.nio.charset.StandardCharsets;

/** What the tests share: answers compared with those that are due, and a text put on the tape. */
final class Due {
    private final String test;
    private int wrong = 0;
    private int asked = 0;

    Due(String test) {
        this.test = test;
    }

    void is(String call, long got, long want) {
        asked++;
        if (got != want) {
            wrong++;
            if (wrong <= 40) {
                System.out.println(test + ": " + call + " answered " + got + ", due is " + want);
            }
        }
    }

    boolean anyWrong() {
        return wrong != 0;
    }

    void close() {
        System.out.println(test + ": " + asked + " answers, " + wrong + " not as due");
        if (wrong != 0) {
            System.exit(1);
        }
    }

    static byte[] bytesOf(String text) {
        return text.getBytes(StandardCharsets.ISO_8859_1);
    }

    /** The eight bytes from a place on, blanks behind the end. */
    static long eight(byte[] bytes, int from) {
        long v = 0;
        for (int i = from; i < from + 8; i++) {
            v = v << 8 | (i < bytes.length ? bytes[i] & 0xFF : ' ');
        }
        return v;
    }

    /** Puts a text on an empty tape, whole. */
    static void put(RowsColumns x, String text) {
        byte[] bytes = bytesOf(text);
        for (int i = 0; i < bytes.length; i += 8) {
            x.feed(eight(bytes, i));
        }
        x.end(bytes.length);
    }

    static int tell(RowsColumns x, String text) {
        put(x, text);
        return x.text();
    }

    static RowsColumns told(String text) {
        RowsColumns x = new RowsColumns();
        int lines = tell(x, text);
        if (lines < 0) {
            throw new IllegalStateException("a test's own text is refused: " + text);
        }
        return x;
    }

    /** The set of rows that are written as in a text. */
    static long set(String... rows) {
        long set = 0;
        for (int r = 0; r < rows.length; r++) {
            for (int c = 0; c < rows[r].length(); c++) {
                set |= rows[r].charAt(c) == 'd' ? 1L << (8 * r + c) : 0;
            }
        }
        return set;
    }
}
