import java.lang.reflect.InvocationTargetException;
import java.lang.reflect.Method;
import java.lang.reflect.Modifier;
import java.nio.charset.StandardCharsets;
import java.util.Map;
import java.util.TreeMap;

/** What the tests share: answers compared with those that are due, and a text put on the tape. */
final class Due {
    /** A set without an order of its own. */
    static final long SOME = 0x9d27c63a51e80f4bL;

    private final String test;
    private int wrong = 0;
    private int asked = 0;
    private String sentence = "";

    Due(String test) {
        this.test = test;
    }

    void is(String call, long got, long want) {
        asked++;
        if (got != want) {
            wrong++;
            if (wrong <= 40) {
                System.out.println(test + ": " + sentence + call + " answered " + got + ", due is " + want);
            }
        }
    }

    boolean anyWrong() {
        return wrong != 0;
    }

    void close() {
        System.out.println(test + ": " + asked + " answers, " + wrong + " not as due");
        if (wrong != 0) {
            System.exit(1);
        }
    }

    /** Calls every static method of a class that takes nothing and is private: none can be forgotten. */
    void every(Class<?> tests) {
        Map<String, Method> all = new TreeMap<>();
        for (Method m : tests.getDeclaredMethods()) {
            if (Modifier.isPrivate(m.getModifiers()) && !m.isSynthetic() && m.getParameterCount() == 0
                && m.getReturnType() == void.class) {
                all.put(m.getName(), m);
            }
        }
        for (Method m : all.values()) {
            sentence = m.getName() + ": ";
            int before = asked;
            try {
                m.setAccessible(true);
                m.invoke(null);
            } catch (InvocationTargetException thrown) {
                is("what was thrown, " + thrown.getCause(), 1, 0);
            } catch (IllegalAccessException closed) {
                throw new IllegalStateException(closed);
            }
            is("whether anything was asked", asked > before ? 1 : 0, 1);
        }
        sentence = "";
        is("whether there are tests", all.isEmpty() ? 0 : 1, 1);
    }

    static byte[] bytesOf(String text) {
        return text.getBytes(StandardCharsets.ISO_8859_1);
    }

    /** The eight bytes from a place on, blanks behind the end. */
    static long eight(byte[] bytes, int from) {
        long v = 0;
        for (int i = from; i < from + 8; i++) {
            v = v << 8 | (i < bytes.length ? bytes[i] & 0xFF : ' ');
        }
        return v;
    }

    /** Puts a text on an empty tape, whole. */
    static void put(RowsColumns x, String text) {
        byte[] bytes = bytesOf(text);
        for (int i = 0; i < bytes.length; i += 8) {
            x.feed(eight(bytes, i));
        }
        x.end(bytes.length);
    }

    static int tell(RowsColumns x, String text) {
        put(x, text);
        return x.text();
    }

    static RowsColumns told(String text) {
        RowsColumns x = new RowsColumns();
        int lines = tell(x, text);
        if (lines < 0) {
            throw new IllegalStateException("a test's own text is refused: " + text);
        }
        return x;
    }

    /** The rows of a set as a text tells them, a blank ahead of each. */
    static String rows(int high, int wide, long set) {
        StringBuilder text = new StringBuilder();
        for (int r = 0; r < high; r++) {
            text.append(' ');
            for (int c = 0; c < wide; c++) {
                text.append((set >>> 8 * r + c & 1) != 0 ? 'd' : 'l');
            }
        }
        return text.toString();
    }

    /** All squares of a size. */
    static long all(int high, int wide) {
        long set = 0;
        for (int r = 0; r < high; r++) {
            for (int c = 0; c < wide; c++) {
                set |= 1L << 8 * r + c;
            }
        }
        return set;
    }

    /** That part of the set without order that has a place in a size. */
    static long some(int high, int wide) {
        return SOME & all(high, wide);
    }

    interface OfSize {
        void test(int high, int wide);
    }

    static void everySize(OfSize test) {
        for (int high = 1; high <= 8; high++) {
            for (int wide = 1; wide <= 8; wide++) {
                test.test(high, wide);
            }
        }
    }

    static RowsColumns cloth(int high, int wide, long set) {
        return told("cloth" + rows(high, wide, set) + ";");
    }

    static RowsColumns wished(int high, int wide, long set, long pattern) {
        return told("cloth" + rows(high, wide, set) + "; pattern" + rows(high, wide, pattern) + ";");
    }

    /** The set of rows that are written as in a text. */
    static long set(String... rows) {
        long set = 0;
        for (int r = 0; r < rows.length; r++) {
            for (int c = 0; c < rows[r].length(); c++) {
                set |= rows[r].charAt(c) == 'd' ? 1L << (8 * r + c) : 0;
            }
        }
        return set;
    }
}
