import java.util.ArrayList;
import java.util.List;
import java.util.regex.Matcher;
import java.util.regex.Pattern;

/** The text read by a regular expression, token by token. */
final class ModelText {
    private static final Pattern TOKEN = Pattern.compile(" *([a-z]+|[0-9]+|;|\\z|[^ ])", Pattern.DOTALL);

    int fault = 0;
    int place = 0;
    int lines = 0;
    boolean[][] cloth = null;
    boolean[][] pattern = null;
    final List<List<int[]>> days = new ArrayList<>();
    private final String tape;
    private final Matcher tokens;
    private String token = "";
    private int start = 0;
    private int from = 0;

    private static final class Refused extends RuntimeException {
        private static final long serialVersionUID = 1L;
    }

    ModelText(List<Byte> bytes) {
        StringBuilder signs = new StringBuilder();
        for (byte b : bytes) {
            signs.append((char) (b & 0xFF));
        }
        tape = signs.toString();
        tokens = TOKEN.matcher(tape);
        try {
            readLines();
        } catch (Refused refused) {
            lines = -1;
        }
    }

    private Refused refuse(int f, int p) {
        fault = f;
        place = p;
        return new Refused();
    }

    private void next() {
        if (!tokens.find(from)) {
            throw new IllegalStateException("no token at " + from);
        }
        token = tokens.group(1);
        start = tokens.start(1);
        from = tokens.end();
        if (!token.matches("[a-z]+|[0-9]{1,2}|;|")) {
            throw refuse(1, start);
        }
    }

    private void readLines() {
        for (next(); !token.isEmpty(); next()) {
            lines++;
            switch (token) {
                case "cloth":
                    if (cloth != null) {
                        throw refuse(4, start);
                    }
                    cloth = rows();
                    break;
                case "pattern":
                    if (pattern != null) {
                        throw refuse(4, start);
                    }
                    pattern = rows();
                    break;
                case "day":
                    if (days.size() == 12) {
                        throw refuse(5, start);
                    }
                    days.add(acts());
                    break;
                default:
                    throw refuse(2, start);
            }
        }
        boolean[][] size = cloth == null ? new boolean[4][4] : cloth;
        if (pattern != null && !Model.same(size, pattern)) {
            throw refuse(6, tape.length());
        }
        for (List<int[]> day : days) {
            for (int[] a : day) {
                if (!Model.isAct(size, a[0], a[1])) {
                    throw refuse(7, tape.length());
                }
            }
        }
    }

    private boolean[][] rows() {
        List<String> rows = new ArrayList<>();
        for (next(); rows.isEmpty() || !token.equals(";"); next()) {
            if (!token.matches("[dl]+")) {
                throw refuse(2, start);
            }
            if (token.length() > 8 || !rows.isEmpty() && rows.get(0).length() != token.length()) {
                throw refuse(3, start);
            }
            if (rows.size() == 8) {
                throw refuse(5, start);
            }
            rows.add(token);
        }
        boolean[][] a = new boolean[rows.size()][rows.get(0).length()];
        for (int r = 0; r < a.length; r++) {
            for (int c = 0; c < a[0].length; c++) {
                a[r][c] = rows.get(r).charAt(c) == 'd';
            }
        }
        return a;
    }

    private List<int[]> acts() {
        List<int[]> acts = new ArrayList<>();
        for (next(); acts.isEmpty() || !token.equals(";"); next()) {
            int kind = List.of("row", "column", "slant").indexOf(token);
            if (kind < 0) {
                throw refuse(2, start);
            }
            if (acts.size() == 3) {
                throw refuse(5, start);
            }
            next();
            if (!token.matches("[0-9]+")) {
                throw refuse(2, start);
            }
            int number = Integer.parseInt(token);
            if (number > (kind == 2 ? 14 : 7)) {
                throw refuse(3, start);
            }
            acts.add(new int[] {kind, number});
        }
        return acts;
    }
}
