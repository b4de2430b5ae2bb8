/**
 * A cloth of dark and light squares whose rows, columns and slants are turned.
 * ../shared/DOC.md is the contract; the words in capitals there are the plain names here.
 *
 * Every row of numbers is made once, in a constructor, and used again: no call makes an object.
 */
public final class RowsColumns {
    public static final int BAD = -1, STATE = -2, FULL = -3, NONE = -4;

    private static final int MOST = 8;
    private static final int ROW = 0, COLUMN = 1, SLANT = 2;
    private static final int MOST_SLANTS = 2 * MOST - 1;
    private static final int MOST_LINES = 2 * MOST + MOST_SLANTS;
    private static final int MOST_TURNS = 4;
    private static final int NO_MOVE = 8;
    private static final int SLANTED_LIMIT = 10;
    private static final int MOST_READ = 20;
    private static final int TURNINGS = 8;
    private static final int NULL_FAULT = 1, INDEX_FAULT = 2, CAST_FAULT = 3, SIZE_FAULT = 4;

    private final Cloth cloth = new Cloth(true);
    private final Cloth pattern = new Cloth(false);
    private final Cloth firstImage = new Cloth(false);
    private final Cloth secondImage = new Cloth(false);
    private final Cloth scratch = new Cloth(true);
    private final Days days = new Days();
    private final Tape tape = new Tape();
    private final Teller teller = new Teller(tape);
    private final Sheets sheets = new Sheets();
    private final Way way = new Way();
    private final Name ownName = new Name();
    private final Name otherName = new Name();
    private final long[] independent = new long[MOST_LINES];
    private int latestFault;
    private int latestTorn;

    public RowsColumns() {
    }

    // ---- the text

    public int feed(long v) {
        return tape.add(v) ? tape.length : FULL;
    }

    public int end(int n) {
        if (n < 0 || n > tape.length) {
            return BAD;
        }
        int before = tape.length;
        tape.length = n;
        return before;
    }

    public int text() {
        int answer = teller.takeText();
        latestFault = teller.fault;
        tape.length = 0;
        if (latestFault == 0) {
            cloth.become(teller.told);
            cloth.there = true;
            pattern.become(teller.wished);
            days.become(teller.days);
            firstImage.there = false;
            secondImage.there = false;
        }
        return answer;
    }

    public int fault() {
        return latestFault;
    }

    public int rule(int what) {
        switch (what) {
            case 0: return cloth.high;
            case 1: return cloth.wide;
            case 2: return pattern.there ? 1 : 0;
            case 3: return days.many;
            case 4: return cloth.linesOf(SLANT);
            default: return BAD;
        }
    }

    public int day(int d, int i) {
        if (d < 0 || d >= days.many || i < -1 || i >= days.actsOf(d)) {
            return BAD;
        }
        return i == -1 ? days.actsOf(d) : days.codeOf(d, i);
    }

    // ---- the cloth

    public long cloth(int of) {
        if (of == 0) {
            return cloth.dark;
        }
        return of == 1 && pattern.there ? pattern.dark : 0;
    }

    public int square(int r, int c) {
        return cloth.hasSquare(r, c) ? cloth.squareAt(r, c) : BAD;
    }

    public int paint(int r, int c, boolean dark) {
        return cloth.hasSquare(r, c) ? cloth.colour(r, c, dark) : BAD;
    }

    public int wish(int r, int c, boolean dark) {
        if (!cloth.hasSquare(r, c)) {
            return BAD;
        }
        return pattern.there ? pattern.colour(r, c, dark) : STATE;
    }

    public int act(int kind, int i) {
        if (!cloth.hasLine(kind, i)) {
            return BAD;
        }
        cloth.dark ^= cloth.squaresOf(kind, i);
        return cloth.darkSquares();
    }

    public int turn(int rows, int columns) {
        if (rows < 0 || rows > cloth.everyRow() || columns < 0 || columns > cloth.everyColumn()) {
            return BAD;
        }
        cloth.dark ^= cloth.squaresTurned(rows, columns);
        return cloth.darkSquares();
    }

    public int go(int n) {
        if (n < 0 || n > days.many) {
            return BAD;
        }
        for (int d = 0; d < n; d++) {
            for (int i = 0; i < days.actsOf(d); i++) {
                cloth.dark ^= cloth.squaresOf(days.kindOf(d, i), days.numberOf(d, i));
            }
        }
        return cloth.darkSquares();
    }

    // ---- forms

    public long form(int of) {
        if (of == 0) {
            return cloth.formOf(cloth.dark);
        }
        return of == 1 && pattern.there ? pattern.formOf(pattern.dark) : BAD;
    }

    public long forms() {
        return 1L << (cloth.high - 1) * (cloth.wide - 1);
    }

    public int alike(int k) {
        Cloth image = imageOf(k);
        if (image == null) {
            return BAD;
        }
        if (!image.there) {
            return STATE;
        }
        return image.sameSize(cloth) && cloth.formOf(cloth.dark ^ image.dark) == 0 ? 1 : 0;
    }

    public int plan(int what) {
        if (what < 0 || what > 3) {
            return BAD;
        }
        if (!pattern.there) {
            return STATE;
        }
        way.findPlan(cloth, cloth.dark ^ pattern.dark);
        if (!way.found) {
            return NONE;
        }
        if (what == 3) {
            return Math.max(Integer.bitCount(way.rows), Integer.bitCount(way.columns));
        }
        return toldOf(what, way.acts());
    }

    public int nearest(int what) {
        if (what < 0 || what > 2) {
            return BAD;
        }
        if (!pattern.there) {
            return STATE;
        }
        way.findNearest(cloth, cloth.dark ^ pattern.dark);
        return toldOf(what, way.unlike);
    }

    public int lightest(int what) {
        if (what < 0 || what > 2) {
            return BAD;
        }
        way.findNearest(cloth, cloth.dark);
        return toldOf(what, way.unlike);
    }

    public int blind(int what) {
        if (what < 0 || what > 1) {
            return BAD;
        }
        if (!pattern.there) {
            return STATE;
        }
        way.goBlind(cloth, cloth.dark ^ pattern.dark);
        if (what == 1) {
            return way.unlike;
        }
        return way.found ? way.days : NONE;
    }

    // ---- slants

    public int slanted(int what) {
        if (what < 0 || what > 3) {
            return BAD;
        }
        if (!pattern.there || cloth.high + cloth.wide > SLANTED_LIMIT) {
            return STATE;
        }
        way.findSlanted(cloth, cloth.dark ^ pattern.dark);
        return way.found ? toldOf(what, way.acts()) : NONE;
    }

    public int power(int what) {
        if (what == 0) {
            return independentLines(COLUMN);
        }
        return what == 1 ? independentLines(SLANT) : BAD;
    }

    // ---- at odds

    public int duel(int n, boolean sheFirst, int what) {
        if (n < 1 || n > MOST_TURNS || what < 0 || what > 1) {
            return BAD;
        }
        int kind = sheFirst ? ROW : COLUMN;
        int move = NO_MOVE;
        int best = 0;
        for (int i = 0; i < cloth.linesOf(kind); i++) {
            int end = endOfDuel(cloth, cloth.dark ^ cloth.squaresOf(kind, i), n - 1, !sheFirst);
            if (move == NO_MOVE || isBetter(sheFirst, end, best)) {
                move = i;
                best = end;
            }
        }
        int idle = endOfDuel(cloth, cloth.dark, n - 1, !sheFirst);
        if (isBetter(sheFirst, idle, best)) {
            move = NO_MOVE;
            best = idle;
        }
        return what == 0 ? best : move;
    }

    // ---- what was turned, spoilt

    public int turned(int k, int what) {
        Cloth image = imageOf(k);
        if (image == null || what < 0 || what > 2) {
            return BAD;
        }
        if (!image.there || !image.sameSize(cloth)) {
            return STATE;
        }
        way.findPlan(cloth, cloth.dark ^ image.dark);
        return way.found ? toldOf(what, way.acts()) : NONE;
    }

    public int spoilt(int what) {
        if (what < 0 || what > 1) {
            return BAD;
        }
        if (!pattern.there) {
            return STATE;
        }
        way.findSpoilt(cloth, cloth.dark ^ pattern.dark);
        return spoiltTold(what);
    }

    public int both(int what) {
        if (what < 0 || what > 1) {
            return BAD;
        }
        if (!pattern.there) {
            return STATE;
        }
        way.findBothSpoilt(cloth, cloth.dark ^ pattern.dark);
        return spoiltTold(what);
    }

    // ---- turned, cut, sewn

    public int rotate(int t) {
        if (t < 0 || t >= TURNINGS) {
            return BAD;
        }
        cloth.rotateBy(t);
        pattern.rotateBy(t);
        days.clear();
        return cloth.high;
    }

    public int cut(int r, int rows, int c, int columns) {
        if (!isPart(r, rows, cloth.high) || !isPart(c, columns, cloth.wide)) {
            return BAD;
        }
        // A neighbour's bits that the shift lets in fall outside the new size: resize takes them away.
        cloth.resize(rows, columns, cloth.dark >>> (8 * r + c));
        forgetPlans();
        return cloth.darkSquares();
    }

    public int sew(int k, boolean below) {
        Cloth image = imageOf(k);
        if (image == null) {
            return BAD;
        }
        if (!image.there || (below ? image.wide != cloth.wide : image.high != cloth.high)) {
            return STATE;
        }
        int high = below ? cloth.high + image.high : cloth.high;
        int wide = below ? cloth.wide : cloth.wide + image.wide;
        if (high > MOST || wide > MOST) {
            return FULL;
        }
        long moved = image.dark << (below ? 8 * cloth.high : cloth.wide);
        cloth.resize(high, wide, cloth.dark | moved);
        forgetPlans();
        return cloth.darkSquares();
    }

    public long name(int what) {
        if (what < 0 || what > 1) {
            return BAD;
        }
        ownName.find(cloth, scratch);
        return what == 0 ? ownName.form : ownName.turning;
    }

    public int cousin(int k) {
        Cloth image = imageOf(k);
        if (image == null) {
            return BAD;
        }
        if (!image.there) {
            return STATE;
        }
        ownName.find(cloth, scratch);
        otherName.find(image, scratch);
        return ownName.sameAs(otherName) ? 1 : 0;
    }

    // ---- images, sheets

    public int keep(int k) {
        Cloth image = imageOf(k);
        if (image == null) {
            return BAD;
        }
        int before = image.there ? 1 : 0;
        image.become(cloth);
        return before;
    }

    public int back(int k) {
        Cloth image = imageOf(k);
        if (image == null) {
            return BAD;
        }
        if (!image.there) {
            return STATE;
        }
        if (!image.sameSize(cloth)) {
            forgetPlans();
        }
        cloth.become(image);
        return cloth.darkSquares();
    }

    public int sheet(int k, int lane, int n) {
        Sheet sheet = sheets.at(k);
        if (sheet == null || !isLane(lane) || n > Sheet.MOST_CELLS) {
            return BAD;
        }
        if (n < 0) {
            return -10 - SIZE_FAULT;
        }
        sheet.renew(lane, n);
        return 1;
    }

    public int lay(int k, int i, int v) {
        Sheet sheet = sheets.at(k);
        if (sheet == null) {
            return BAD;
        }
        if (sheet.isNothing()) {
            return -10 - NULL_FAULT;
        }
        return sheet.put(i, v) ? 1 : -10 - INDEX_FAULT;
    }

    public int read(int k, int lane, int f, int n) {
        Sheet sheet = sheets.at(k);
        if (sheet == null || !isLane(lane) || n < 0 || n > MOST_READ) {
            return BAD;
        }
        int found = n == 0 ? 0 : sheet.faultOfLane(lane);
        int whole = found == 0 ? Math.min(n, sheet.pairsFrom(f)) : 0;
        for (int i = 0; i < whole; i++) {
            if (!cloth.hasLine(sheet.cell(f + 2 * i), sheet.cell(f + 2 * i + 1))) {
                return -20 - i;
            }
        }
        for (int i = 0; i < whole; i++) {
            cloth.dark ^= cloth.squaresOf(sheet.cell(f + 2 * i), sheet.cell(f + 2 * i + 1));
        }
        latestTorn = found == 0 && whole < n ? INDEX_FAULT : found;
        return whole;
    }

    public int torn() {
        return latestTorn;
    }

    public int count(int what) {
        switch (what) {
            case 0: return cloth.darkSquares();
            case 1: return cloth.high * cloth.wide;
            case 2: return pattern.there ? Long.bitCount(cloth.dark ^ pattern.dark) : NONE;
            case 3: return (firstImage.there ? 1 : 0) + (secondImage.there ? 1 : 0);
            case 4: return tape.length;
            case 5: return sheets.cellsOf(0);
            default: return BAD;
        }
    }

    // ---- helpers of the face

    private Cloth imageOf(int k) {
        if (k == 0) {
            return firstImage;
        }
        return k == 1 ? secondImage : null;
    }

    private void forgetPlans() {
        pattern.there = false;
        days.clear();
    }

    private int toldOf(int what, int amount) {
        switch (what) {
            case 0: return amount;
            case 1: return way.rows;
            case 2: return way.columns;
            default: return way.slants;
        }
    }

    private int spoiltTold(int what) {
        if (what == 0) {
            return way.many;
        }
        return way.many == 0 ? NONE : way.first;
    }

    private static boolean isPart(int from, int many, int whole) {
        return from >= 0 && from < whole && many >= 1 && many <= whole - from;
    }

    private static boolean isLane(int lane) {
        return lane >= 0 && lane <= 2;
    }

    private static boolean isBetter(boolean she, int end, int best) {
        return she ? end > best : end < best;
    }

    /** How many dark squares are left when both play their best. */
    private static int endOfDuel(Cloth size, long dark, int left, boolean she) {
        if (left < 1 || left > MOST_TURNS) {
            return Long.bitCount(dark);
        }
        int kind = she ? ROW : COLUMN;
        int best = endOfDuel(size, dark, left - 1, !she);
        for (int i = 0; i < size.linesOf(kind); i++) {
            int end = endOfDuel(size, dark ^ size.squaresOf(kind, i), left - 1, !she);
            if (isBetter(she, end, best)) {
                best = end;
            }
        }
        return best;
    }

    /** The rank of the lines of the kinds up to this one: each doubles the cloths that can be made. */
    private int independentLines(int lastKind) {
        int many = 0;
        for (int kind = ROW; kind <= lastKind; kind++) {
            for (int i = 0; i < cloth.linesOf(kind); i++) {
                long rest = cloth.squaresOf(kind, i);
                for (int j = 0; j < many && j < independent.length; j++) {
                    long lowest = independent[j] & -independent[j];
                    rest ^= (rest & lowest) != 0 ? independent[j] : 0;
                }
                if (rest != 0 && many < independent.length) {
                    independent[many] = rest;
                    many++;
                }
            }
        }
        return many;
    }

    /** A size and the dark squares in it: square (r, c) is bit 8 r + c. */
    private static final class Cloth {
        private static final long FIRST_COLUMN = 0x0101010101010101L;
        private static final int FIRST_SIZE = 4;

        boolean there;
        int high = FIRST_SIZE;
        int wide = FIRST_SIZE;
        long dark;

        Cloth(boolean there) {
            this.there = there;
        }

        void forget() {
            there = false;
            high = FIRST_SIZE;
            wide = FIRST_SIZE;
            dark = 0;
        }

        void become(Cloth other) {
            there = other.there;
            high = other.high;
            wide = other.wide;
            dark = other.dark;
        }

        void resize(int newHigh, int newWide, long newDark) {
            high = newHigh;
            wide = newWide;
            dark = newDark & allSquares();
        }

        boolean sameSize(Cloth other) {
            return high == other.high && wide == other.wide;
        }

        int darkSquares() {
            return Long.bitCount(dark);
        }

        int everyRow() {
            return (1 << high) - 1;
        }

        int everyColumn() {
            return (1 << wide) - 1;
        }

        long allSquares() {
            return everyColumn() * columnSquares(0);
        }

        boolean hasSquare(int r, int c) {
            return r >= 0 && r < high && c >= 0 && c < wide;
        }

        int squareAt(int r, int c) {
            return (int) (dark >>> (8 * r + c)) & 1;
        }

        int colour(int r, int c, boolean toDark) {
            int before = squareAt(r, c);
            long bit = 1L << (8 * r + c);
            dark = toDark ? dark | bit : dark & ~bit;
            return before;
        }

        int linesOf(int kind) {
            switch (kind) {
                case ROW: return high;
                case COLUMN: return wide;
                case SLANT: return high + wide - 1;
                default: return 0;
            }
        }

        boolean hasLine(int kind, int i) {
            return i >= 0 && i < linesOf(kind);
        }

        long squaresOf(int kind, int i) {
            if (!hasLine(kind, i)) {
                return 0;
            }
            if (kind == ROW) {
                return (long) everyColumn() << 8 * i;
            }
            return kind == COLUMN ? columnSquares(i) : slantSquares(i);
        }

        private long columnSquares(int c) {
            return FIRST_COLUMN >>> (64 - 8 * high) << c;
        }

        private long slantSquares(int d) {
            long squares = 0;
            for (int r = 0; r < high; r++) {
                if (hasSquare(r, d - r)) {
                    squares |= 1L << (8 * r + d - r);
                }
            }
            return squares;
        }

        long squaresTurned(int rows, int columns) {
            long squares = columns * columnSquares(0);
            for (int r = 0; r < high; r++) {
                if ((rows >> r & 1) != 0) {
                    squares ^= squaresOf(ROW, r);
                }
            }
            return squares;
        }

        int columnsOfFirstRow(long set) {
            return (int) set & everyColumn();
        }

        /** The rows whose first square is unlike that of row 0. */
        int rowsUnlikeFirst(long set) {
            int rows = 0;
            for (int r = 1; r < high; r++) {
                rows |= (int) ((set >>> 8 * r ^ set) & 1) << r;
            }
            return rows;
        }

        long formOf(long set) {
            return set ^ squaresTurned(rowsUnlikeFirst(set), columnsOfFirstRow(set));
        }

        void rotateBy(int turning) {
            if (turning >= 4) {
                mirror();
            }
            for (int quarter = 0; quarter < (turning & 3); quarter++) {
                quarterRight();
            }
        }

        private void mirror() {
            long mirrored = 0;
            for (int r = 0; r < high; r++) {
                for (int c = 0; c < wide; c++) {
                    mirrored |= (long) squareAt(r, c) << (8 * r + wide - 1 - c);
                }
            }
            dark = mirrored;
        }

        private void quarterRight() {
            long rotated = 0;
            for (int r = 0; r < high; r++) {
                for (int c = 0; c < wide; c++) {
                    rotated |= (long) squareAt(r, c) << (8 * c + high - 1 - r);
                }
            }
            int formerHigh = high;
            high = wide;
            wide = formerHigh;
            dark = rotated;
        }
    }

    /** What the latest search found. */
    private static final class Way {
        private static final int MOST_DAYS = 60;

        boolean found;
        int rows;
        int columns;
        int slants;
        int unlike;
        int days;
        int many;
        int first;
        private final long[] slantSets = new long[MOST_SLANTS];
        private final long[] squareForms = new long[64];

        int acts() {
            return Integer.bitCount(rows) + Integer.bitCount(columns) + Integer.bitCount(slants);
        }

        private void take(int newRows, int newColumns, int newSlants) {
            rows = newRows;
            columns = newColumns;
            slants = newSlants;
        }

        void findPlan(Cloth size, long difference) {
            found = size.formOf(difference) == 0;
            take(size.rowsUnlikeFirst(difference), size.columnsOfFirstRow(difference), 0);
            int otherRows = rows ^ size.everyRow();
            int acts = acts();
            int otherActs = size.high + size.wide - acts;
            if (otherActs < acts || otherActs == acts && otherRows < rows) {
                take(otherRows, columns ^ size.everyColumn(), 0);
            }
        }

        void findNearest(Cloth size, long difference) {
            found = false;
            for (int tried = 0; tried <= size.everyRow(); tried++) {
                tryRows(size, tried, difference ^ size.squaresTurned(tried, 0));
            }
        }

        /** Once the rows are chosen each column decides for itself; at a half it stays, for the lesser bits. */
        private void tryRows(Cloth size, int tried, long rest) {
            int newColumns = 0;
            int newUnlike = 0;
            for (int c = 0; c < size.wide; c++) {
                int there = Long.bitCount(rest & size.squaresOf(COLUMN, c));
                if (2 * there > size.high) {
                    newColumns |= 1 << c;
                }
                newUnlike += Math.min(there, size.high - there);
            }
            if (!found || newUnlike < unlike) {
                found = true;
                take(tried, newColumns, 0);
                unlike = newUnlike;
            }
        }

        void goBlind(Cloth size, long difference) {
            long left = difference;
            days = 0;
            while (left != 0 && days < MOST_DAYS) {
                long hers = size.squaresOf(ROW, mostUnlike(size, ROW, left));
                long his = size.squaresOf(COLUMN, mostUnlike(size, COLUMN, left));
                left ^= hers ^ his;
                days++;
            }
            found = left == 0;
            unlike = Long.bitCount(left);
        }

        private static int mostUnlike(Cloth size, int kind, long left) {
            int line = -1;
            int most = 0;
            for (int i = 0; i < size.linesOf(kind); i++) {
                long squares = size.squaresOf(kind, i);
                int there = Long.bitCount(left & squares);
                if (2 * there > Long.bitCount(squares) && there > most) {
                    line = i;
                    most = there;
                }
            }
            return line;
        }

        void findSlanted(Cloth size, long difference) {
            for (int d = 0; d < slantSets.length; d++) {
                slantSets[d] = size.squaresOf(SLANT, d);
            }
            found = false;
            for (int tried = 0; tried <= size.everyRow(); tried++) {
                for (int with = 0; with <= size.everyColumn(); with++) {
                    trySlants(tried, with, difference ^ size.squaresTurned(tried, with));
                }
            }
        }

        private void trySlants(int newRows, int newColumns, long rest) {
            int newSlants = slantsThatMake(rest);
            if (newSlants < 0) {
                return;
            }
            int newActs = Integer.bitCount(newRows) + Integer.bitCount(newColumns) + Integer.bitCount(newSlants);
            if (!found || newActs < acts()) {
                found = true;
                take(newRows, newColumns, newSlants);
            }
        }

        /** The slants share no square, so there is one choice of them at most; -1: none. */
        private int slantsThatMake(long rest) {
            int made = 0;
            for (int d = 0; d < slantSets.length; d++) {
                long part = rest & slantSets[d];
                if (part != 0 && part != slantSets[d]) {
                    return -1;
                }
                if (part != 0) {
                    made |= 1 << d;
                }
            }
            return made;
        }

        void findSpoilt(Cloth size, long difference) {
            long wanted = size.formOf(difference);
            many = 0;
            first = 0;
            for (int s = 0; s < squareForms.length; s++) {
                if (size.hasSquare(s >> 3, s & 7) && size.formOf(1L << s) == wanted) {
                    first = many == 0 ? s : first;
                    many++;
                }
            }
        }

        /** The form of two squares together is that of each, joined: forms are kept, not asked for each pair. */
        void findBothSpoilt(Cloth size, long difference) {
            long wanted = size.formOf(difference);
            many = 0;
            first = 0;
            for (int s = 0; s < squareForms.length; s++) {
                squareForms[s] = size.formOf(1L << s);
            }
            for (int s = 0; s < squareForms.length; s++) {
                if (size.hasSquare(s >> 3, s & 7)) {
                    pairWith(size, s, wanted ^ squareForms[s]);
                }
            }
        }

        private void pairWith(Cloth size, int lesser, long wanted) {
            for (int s = 0; s < squareForms.length; s++) {
                if (s > lesser && size.hasSquare(s >> 3, s & 7) && squareForms[s] == wanted) {
                    first = many == 0 ? 64 * lesser + s : first;
                    many++;
                }
            }
        }
    }

    /** The one name of a cloth and of all that it becomes when it is rotated and mirrored. */
    private static final class Name {
        private int high;
        private int wide;
        long form;
        int turning;

        void find(Cloth of, Cloth turnedCloth) {
            boolean found = false;
            for (int t = 0; t < TURNINGS; t++) {
                turnedCloth.become(of);
                turnedCloth.rotateBy(t);
                long candidate = turnedCloth.formOf(turnedCloth.dark);
                if (turnedCloth.high <= turnedCloth.wide && (!found || candidate < form)) {
                    found = true;
                    form = candidate;
                    turning = t;
                    high = turnedCloth.high;
                    wide = turnedCloth.wide;
                }
            }
        }

        boolean sameAs(Name other) {
            return high == other.high && wide == other.wide && form == other.form;
        }
    }

    private static final class Days {
        static final int MOST_DAYS = 12;
        static final int MOST_ACTS = 3;
        private static final int KIND = 20;

        int many;
        private final int[] acts = new int[MOST_DAYS];
        private final int[] codes = new int[MOST_DAYS * MOST_ACTS];

        void clear() {
            many = 0;
        }

        void become(Days other) {
            many = other.many;
            for (int d = 0; d < acts.length && d < other.acts.length; d++) {
                acts[d] = other.acts[d];
            }
            for (int place = 0; place < codes.length && place < other.codes.length; place++) {
                codes[place] = other.codes[place];
            }
        }

        void begin() {
            if (many >= 0 && many < acts.length) {
                acts[many] = 0;
                many++;
            }
        }

        /** One act more for the latest day. */
        void add(int kind, int number) {
            int d = many - 1;
            int place = MOST_ACTS * d + actsOf(d);
            if (d >= 0 && d < acts.length && place >= 0 && place < codes.length) {
                codes[place] = KIND * kind + number;
                acts[d]++;
            }
        }

        int actsOf(int d) {
            return d >= 0 && d < many && d < acts.length ? acts[d] : 0;
        }

        int codeOf(int d, int i) {
            int place = MOST_ACTS * d + i;
            return i >= 0 && i < actsOf(d) && place >= 0 && place < codes.length ? codes[place] : 0;
        }

        int kindOf(int d, int i) {
            return codeOf(d, i) / KIND;
        }

        int numberOf(int d, int i) {
            return codeOf(d, i) % KIND;
        }
    }

    private static final class Tape {
        static final int ROOM = 320;

        int length;
        private final byte[] bytes = new byte[ROOM];

        boolean add(long v) {
            if (length < 0 || length > ROOM - 8) {
                return false;
            }
            for (int i = 0; i < 8; i++) {
                int place = length + i;
                if (place >= 0 && place < bytes.length) {
                    bytes[place] = (byte) (v >> 56 - 8 * i);
                }
            }
            length += 8;
            return true;
        }

        /** Beyond the end 0, which begins no token. */
        int byteAt(int place) {
            return place >= 0 && place < length && place < bytes.length ? bytes[place] : 0;
        }
    }

    /** Reads the tape into drafts, so that a text with a fault leaves what stands. */
    private static final class Teller {
        private static final int END = 0, NAME = 1, NUMBER = 2, SIGN = 3, WRONG = 4;
        private static final int NO_TOKEN = 1, MISPLACED = 2, OUT_OF_BOUNDS = 3, TWICE = 4, TOO_MANY = 5,
                OTHER_SIZE = 6, NO_SUCH_ACT = 7;
        private static final int MOST_FIGURES = 2;
        private static final int LAST_LINE = 7;
        private static final int LAST_SLANT = 14;

        final Cloth told = new Cloth(false);
        final Cloth wished = new Cloth(false);
        final Days days = new Days();
        int fault;
        private final Tape tape;
        private int place;
        private int token;
        private int first;
        private int next;
        private int value;

        Teller(Tape tape) {
            this.tape = tape;
        }

        /** How many lines; -10 less the place of the fault. */
        int takeText() {
            told.forget();
            wished.forget();
            days.clear();
            fault = 0;
            place = 0;
            next = 0;
            int lines = 0;
            while (lines < Tape.ROOM && takeLine()) {
                lines++;
            }
            if (fault == 0) {
                judgeWhole();
            }
            return fault == 0 ? lines : -10 - place;
        }

        /** Only the first fault counts, so that a caller may refuse a token that was none. */
        private boolean refuse(int newFault) {
            if (fault == 0) {
                fault = newFault;
                place = first;
            }
            return false;
        }

        private boolean takeLine() {
            step();
            if (token == END) {
                return false;
            }
            if (isNamed("cloth")) {
                return takeRows(told);
            }
            if (isNamed("pattern")) {
                return takeRows(wished);
            }
            return isNamed("day") ? takeDay() : refuse(MISPLACED);
        }

        private boolean takeRows(Cloth draft) {
            if (draft.there) {
                return refuse(TWICE);
            }
            draft.there = true;
            draft.high = 0;
            for (int i = 0; i <= MOST; i++) {
                step();
                if (draft.high > 0 && token == SIGN) {
                    return true;
                }
                if (!takeRow(draft)) {
                    return false;
                }
            }
            return false;
        }

        private boolean takeRow(Cloth draft) {
            if (!isRow()) {
                return refuse(MISPLACED);
            }
            int width = next - first;
            if (width > MOST || draft.high > 0 && width != draft.wide) {
                return refuse(OUT_OF_BOUNDS);
            }
            if (draft.high >= MOST) {
                return refuse(TOO_MANY);
            }
            draft.wide = width;
            for (int c = 0; c < width; c++) {
                if (tape.byteAt(first + c) == 'd') {
                    draft.dark |= 1L << (8 * draft.high + c);
                }
            }
            draft.high++;
            return true;
        }

        private boolean takeDay() {
            if (days.many >= Days.MOST_DAYS) {
                return refuse(TOO_MANY);
            }
            days.begin();
            for (int i = 0; i <= Days.MOST_ACTS; i++) {
                step();
                if (i > 0 && token == SIGN) {
                    return true;
                }
                int kind = kindNamed();
                if (kind < 0) {
                    return refuse(MISPLACED);
                }
                if (i >= Days.MOST_ACTS) {
                    return refuse(TOO_MANY);
                }
                step();
                if (!takeNumber(kind)) {
                    return false;
                }
            }
            return false;
        }

        private boolean takeNumber(int kind) {
            if (token != NUMBER) {
                return refuse(MISPLACED);
            }
            if (value > (kind == SLANT ? LAST_SLANT : LAST_LINE)) {
                return refuse(OUT_OF_BOUNDS);
            }
            days.add(kind, value);
            return true;
        }

        private void judgeWhole() {
            if (wished.there && !wished.sameSize(told)) {
                refuse(OTHER_SIZE);
            }
            for (int d = 0; d < days.many; d++) {
                for (int i = 0; i < days.actsOf(d); i++) {
                    if (!told.hasLine(days.kindOf(d, i), days.numberOf(d, i))) {
                        refuse(NO_SUCH_ACT);
                    }
                }
            }
        }

        private int kindNamed() {
            if (isNamed("row")) {
                return ROW;
            }
            if (isNamed("column")) {
                return COLUMN;
            }
            return isNamed("slant") ? SLANT : -1;
        }

        private boolean isNamed(String word) {
            if (token != NAME || next - first != word.length()) {
                return false;
            }
            for (int i = 0; i < word.length(); i++) {
                if (tape.byteAt(first + i) != word.charAt(i)) {
                    return false;
                }
            }
            return true;
        }

        private boolean isRow() {
            if (token != NAME) {
                return false;
            }
            for (int i = first; i < next; i++) {
                int sign = tape.byteAt(i);
                if (sign != 'd' && sign != 'l') {
                    return false;
                }
            }
            return true;
        }

        /** Reads one token: it lies from first up to next. */
        private void step() {
            while (next < tape.length && tape.byteAt(next) == ' ') {
                next++;
            }
            first = next;
            if (first >= tape.length) {
                token = END;
            } else if (tape.byteAt(first) == ';') {
                token = SIGN;
                next++;
            } else if (isLetter(tape.byteAt(first))) {
                token = NAME;
                while (next < tape.length && isLetter(tape.byteAt(next))) {
                    next++;
                }
            } else if (isFigure(tape.byteAt(first))) {
                stepNumber();
            } else {
                token = WRONG;
                refuse(NO_TOKEN);
            }
        }

        private void stepNumber() {
            token = NUMBER;
            value = 0;
            while (next < tape.length && isFigure(tape.byteAt(next))) {
                value = 10 * value + tape.byteAt(next) - '0';
                next++;
            }
            if (next - first > MOST_FIGURES) {
                token = WRONG;
                refuse(NO_TOKEN);
            }
        }

        private static boolean isLetter(int sign) {
            return sign >= 'a' && sign <= 'z';
        }

        private static boolean isFigure(int sign) {
            return sign >= '0' && sign <= '9';
        }
    }

    private static final class Sheet {
        static final int MOST_CELLS = 40;

        int size = -1;
        private int lane;
        private final int[] cells = new int[MOST_CELLS];

        boolean isNothing() {
            return size < 0;
        }

        void renew(int newLane, int newSize) {
            lane = newLane;
            size = newSize;
            for (int i = 0; i < cells.length; i++) {
                cells[i] = 0;
            }
        }

        boolean put(int i, int v) {
            if (i < 0 || i >= size || i >= cells.length) {
                return false;
            }
            if (lane == 0) {
                cells[i] = (byte) v;
            } else {
                cells[i] = lane == 1 ? (short) v : v;
            }
            return true;
        }

        int cell(int i) {
            return i >= 0 && i < size && i < cells.length ? cells[i] : 0;
        }

        int faultOfLane(int asked) {
            if (isNothing()) {
                return NULL_FAULT;
            }
            return lane == asked ? 0 : CAST_FAULT;
        }

        int pairsFrom(int f) {
            return f >= 0 && f < size ? (size - f) / 2 : 0;
        }
    }

    private static final class Sheets {
        private final Sheet[] all = new Sheet[4];

        Sheets() {
            for (int k = 0; k < all.length; k++) {
                all[k] = new Sheet();
            }
        }

        Sheet at(int k) {
            return k >= 0 && k < all.length ? all[k] : null;
        }

        int cellsOf(int k) {
            Sheet sheet = at(k);
            return sheet == null || sheet.isNothing() ? NONE : sheet.size;
        }
    }
}
