import java.util.Arrays;

/**
 * Two tables A and B over a small prime, the pencil "A less x times B", and what it is underneath:
 * the indices and lengths of its Kronecker form. Every method answers as ../shared/DOC.md promises.
 */
public final class PencilForms {
    public static final int BAD = -1, STATE = -2, FULL = -3, NONE = -4;

    private static final int MOST_LINES = 4;
    private static final int MOST_STEPS = 4;
    private static final int FIRST_PRIME = 7;
    private static final int MOST_PRIME = 7;
    private static final int TAPE_PLACES = 160;
    private static final int MOST_BYTE = 127;
    private static final int MOST_MIXES = 100;
    private static final int IMAGES = 2;
    private static final int SHEETS = 4;
    private static final int LANES = 3;
    private static final int MOST_CELLS = 40;
    private static final int MOST_READS = 10;
    private static final int CELLS_A_READ = 4;

    private static final int FOUND_NULL = 1;
    private static final int FOUND_INDEX = 2;
    private static final int FOUND_CAST = 3;
    private static final int FOUND_SIZE = 4;
    private static final int FOUND_BASE = -10;
    private static final int REFUSED_BASE = -20;

    private final TextReader reader;
    private final Pair pair;
    private final Pair[] images;
    private final boolean[] kept;
    private final Sheet[] sheets;
    private final Underneath underneath;
    private final int[] formHere;
    private final int[] formThere;
    private int textFault;
    private int readFault;

    public PencilForms() {
        reader = new TextReader();
        pair = new Pair();
        images = new Pair[IMAGES];
        for (int k = 0; k < IMAGES; k++) {
            images[k] = new Pair();
        }
        kept = new boolean[IMAGES];
        sheets = new Sheet[SHEETS];
        for (int k = 0; k < SHEETS; k++) {
            sheets[k] = new Sheet();
        }
        underneath = new Underneath();
        formHere = new int[Underneath.FORM_NUMBERS];
        formThere = new int[Underneath.FORM_NUMBERS];
    }

    // ---- the text

    public int feed(int c) {
        if (c < 0 || c > MOST_BYTE) {
            return BAD;
        }
        return reader.addByte(c) ? reader.many : FULL;
    }

    public int end(int n) {
        if (n < 0 || n > reader.many) {
            return BAD;
        }
        int had = reader.many;
        reader.many = n;
        return had;
    }

    public int text() {
        reader.readText();
        reader.many = 0;
        textFault = reader.faultKind;
        if (textFault != 0) {
            return FOUND_BASE - reader.faultPlace;
        }
        pair.takeFrom(reader.draft);
        for (int k = 0; k < IMAGES; k++) {
            kept[k] = false;
        }
        return reader.lines;
    }

    public int fault() {
        return textFault;
    }

    public int rule(int what) {
        switch (what) {
            case 0:
                return pair.rows;
            case 1:
                return pair.columns;
            case 2:
                return pair.prime;
            case 3:
                return underneath.howManyCols(pair);
            case 4:
                return underneath.howManyRows(pair);
            case 5:
                return underneath.lengthsFrom(pair, pair.prime, pair.prime);
            case 6:
                return underneath.lengthsFrom(pair, 0, pair.prime - 1);
            case 7:
                return pair.columns - underneath.columnsOfIndices(pair) - underneath.lengthsFrom(pair, 0, pair.prime);
            default:
                return BAD;
        }
    }

    public int cell(int t, int i, int j) {
        return pair.hasPlace(t, i, j) ? pair.valueAt(t, i, j) : BAD;
    }

    // ---- what they are underneath

    public int rank(int x) {
        return isX(x) ? underneath.rankAt(pair, x) : BAD;
    }

    public int nulls(int d) {
        return isStepCount(d) ? underneath.nullsOf(pair, d) : BAD;
    }

    public int col(int i) {
        return i < 0 ? BAD : underneath.colIndex(pair, i);
    }

    public int row(int i) {
        return i < 0 ? BAD : underneath.rowIndex(pair, i);
    }

    public int chains(int x, int k) {
        return isX(x) && isStepCount(k) ? underneath.chainsAt(pair, x, k) : BAD;
    }

    public int length(int x, int i) {
        return isX(x) && i >= 0 ? underneath.lengthAt(pair, x, i) : BAD;
    }

    public int steps(int k, int what) {
        if (!isStepCount(k) || !isSide(what)) {
            return BAD;
        }
        return what == 0 ? underneath.stepsOf(pair, k) : underneath.goersOf(pair, k);
    }

    public int go(int v, int k) {
        if (!isStepCount(k) || !underneath.takeColumn(pair, v)) {
            return BAD;
        }
        return underneath.columnCanGo(pair, k) ? 1 : 0;
    }

    private boolean isX(int x) {
        return x >= 0 && x <= pair.prime;
    }

    private static boolean isStepCount(int k) {
        return k >= 0 && k <= MOST_STEPS;
    }

    private static boolean isSide(int what) {
        return what == 0 || what == 1;
    }

    // ---- what is changed

    public int set(int t, int i, int j, int v) {
        if (!maySet(t, i, j, v)) {
            return BAD;
        }
        int was = pair.valueAt(t, i, j);
        pair.putValue(t, i, j, v);
        return was;
    }

    public int open(int what) {
        if (!isSide(what)) {
            return BAD;
        }
        if (pair.linesOf(what) >= MOST_LINES) {
            return FULL;
        }
        pair.addLine(what);
        return pair.linesOf(what);
    }

    public int cut(int m, int n) {
        if (m < 0 || m > pair.rows || n < 0 || n > pair.columns) {
            return BAD;
        }
        int was = pair.shape();
        pair.shrinkTo(m, n);
        return was;
    }

    public int mix(int what, int i, int j, int c) {
        if (!mayMix(what, i, j, c)) {
            return BAD;
        }
        pair.mixLines(what, i, j, c);
        return 1;
    }

    public int times(int what, int i, int c) {
        if (!pair.hasLine(what, i) || !isFactor(c)) {
            return BAD;
        }
        pair.multiplyLine(what, i, c);
        return 1;
    }

    public int swap(int what, int i, int j) {
        if (!pair.hasLine(what, i) || !pair.hasLine(what, j)) {
            return BAD;
        }
        pair.exchangeLines(what, i, j);
        return 1;
    }

    public int scramble(int seed, int n) {
        if (n < 0 || n > MOST_MIXES) {
            return BAD;
        }
        int mixed = 0;
        int next = seed;
        for (int done = 0; done < n; done++) {
            next = next * 1103515245 + 12345;
            if (mixByNumber((next >>> 16) & 0x7FFF)) {
                mixed++;
            }
        }
        return mixed;
    }

    public int turn(int what) {
        switch (what) {
            case 0:
                pair.exchangeTables();
                break;
            case 1:
                pair.flip();
                break;
            case 2:
                pair.shift();
                break;
            default:
                return BAD;
        }
        return pair.shape();
    }

    private boolean mixByNumber(int got) {
        int what = got % 2;
        int lines = pair.linesOf(what);
        if (lines == 0) {
            return false;
        }
        int i = reduce(got / 2, lines);
        int j = reduce(got / 8, lines);
        int c = reduce(got / 32, pair.prime);
        if (!mayMix(what, i, j, c)) {
            return false;
        }
        pair.mixLines(what, i, j, c);
        return true;
    }

    private boolean maySet(int t, int i, int j, int v) {
        return pair.hasPlace(t, i, j) && v >= 0 && v < pair.prime;
    }

    private boolean mayMix(int what, int i, int j, int c) {
        return i != j && pair.hasLine(what, i) && pair.hasLine(what, j) && isFactor(c);
    }

    private boolean isFactor(int c) {
        return c >= 1 && c < pair.prime;
    }

    // ---- images

    public int keep(int k) {
        if (!isImage(k)) {
            return BAD;
        }
        int was = kept[k] ? 1 : 0;
        images[k].takeFrom(pair);
        kept[k] = true;
        return was;
    }

    public int back(int k) {
        if (!isImage(k)) {
            return BAD;
        }
        if (!kept[k]) {
            return STATE;
        }
        pair.takeFrom(images[k]);
        return pair.shape();
    }

    public int alike(int k) {
        if (!isImage(k)) {
            return BAD;
        }
        if (!kept[k]) {
            return STATE;
        }
        underneath.tellForm(pair, formHere);
        underneath.tellForm(images[k], formThere);
        for (int n = 0; n < Underneath.FORM_NUMBERS; n++) {
            if (formHere[n] != formThere[n]) {
                return 0;
            }
        }
        return 1;
    }

    private static boolean isImage(int k) {
        return k >= 0 && k < IMAGES;
    }

    // ---- sheets

    public int sheet(int k, int lane, int n) {
        if (!isSheet(k) || !isLane(lane) || n > MOST_CELLS) {
            return BAD;
        }
        if (n < 0) {
            return FOUND_BASE - FOUND_SIZE;
        }
        sheets[k].makeNew(lane, n);
        return 1;
    }

    public int lay(int k, int i, int v) {
        if (!isSheet(k)) {
            return BAD;
        }
        int found = sheets[k].findAt(i);
        if (found != 0) {
            return FOUND_BASE - found;
        }
        sheets[k].putCell(i, v);
        return 1;
    }

    /** Looks through all before the first place is set, so that a refusal leaves nothing to undo. */
    public int read(int k, int lane, int f, int n) {
        if (!isSheet(k) || !isLane(lane) || n < 0 || n > MOST_READS) {
            return BAD;
        }
        Sheet from = sheets[k];
        int whole = 0;
        int found = 0;
        for (int i = 0; i < n && found == 0; i++) {
            int first = f + CELLS_A_READ * i;
            found = from.findFour(lane, first);
            if (found == 0) {
                if (!maySetFrom(from, first)) {
                    return REFUSED_BASE - i;
                }
                whole++;
            }
        }
        for (int i = 0; i < whole; i++) {
            setFrom(from, f + CELLS_A_READ * i);
        }
        readFault = found;
        return whole;
    }

    public int torn() {
        return readFault;
    }

    public int count(int what) {
        switch (what) {
            case 0:
                return (kept[0] ? 1 : 0) + (kept[1] ? 1 : 0);
            case 1:
                return pair.placesNotZero();
            case 2:
                return reader.many;
            case 3:
                return sheets[0].isNothing() ? NONE : sheets[0].size;
            case 4:
                return pair.sumOf(0);
            case 5:
                return pair.sumOf(1);
            default:
                return BAD;
        }
    }

    private boolean maySetFrom(Sheet from, int first) {
        return maySet(from.cellAt(first), from.cellAt(first + 1), from.cellAt(first + 2), from.cellAt(first + 3));
    }

    private void setFrom(Sheet from, int first) {
        pair.putValue(from.cellAt(first), from.cellAt(first + 1), from.cellAt(first + 2), from.cellAt(first + 3));
    }

    private static boolean isSheet(int k) {
        return k >= 0 && k < SHEETS;
    }

    private static boolean isLane(int lane) {
        return lane >= 0 && lane < LANES;
    }

    /** v modulo a number from 1 on; the one place where a number that is no constant divides. */
    private static int reduce(int v, int modulus) {
        if (modulus < 1) {
            return 0;
        }
        int left = v % modulus;
        return left < 0 ? left + modulus : left;
    }

    /** PRIME and both TABLES. Places outside ROWS and COLUMNS always hold 0, so a new line needs no clearing. */
    private static final class Pair {
        private static final int TABLES = 2;
        private static final int PLACES = MOST_LINES * MOST_LINES;

        private final int[] values;
        private int prime;
        private int rows;
        private int columns;

        Pair() {
            values = new int[TABLES * PLACES];
            prime = FIRST_PRIME;
        }

        void makeEmpty() {
            Arrays.fill(values, 0);
            prime = FIRST_PRIME;
            rows = 0;
            columns = 0;
        }

        void takeFrom(Pair other) {
            System.arraycopy(other.values, 0, values, 0, TABLES * PLACES);
            prime = other.prime;
            rows = other.rows;
            columns = other.columns;
        }

        int shape() {
            return 10 * rows + columns;
        }

        int linesOf(int what) {
            return what == 0 ? rows : columns;
        }

        boolean hasLine(int what, int i) {
            return isSide(what) && i >= 0 && i < linesOf(what);
        }

        boolean hasPlace(int t, int i, int j) {
            return t >= 0 && t < TABLES && i >= 0 && i < rows && j >= 0 && j < columns;
        }

        /** 0 where there is no PLACE. */
        int valueAt(int t, int i, int j) {
            return hasPlace(t, i, j) ? values[spot(t, i, j)] : 0;
        }

        void putValue(int t, int i, int j, int v) {
            if (hasPlace(t, i, j)) {
                values[spot(t, i, j)] = v;
            }
        }

        void addLine(int what) {
            if (what == 0) {
                growTo(rows + 1, columns);
            } else {
                growTo(rows, columns + 1);
            }
        }

        void growTo(int m, int n) {
            rows = Math.min(m, MOST_LINES);
            columns = Math.min(n, MOST_LINES);
        }

        void shrinkTo(int m, int n) {
            for (int t = 0; t < TABLES; t++) {
                for (int i = 0; i < rows; i++) {
                    for (int j = 0; j < columns; j++) {
                        if (i >= m || j >= n) {
                            putValue(t, i, j, 0);
                        }
                    }
                }
            }
            rows = m;
            columns = n;
        }

        void mixLines(int what, int i, int j, int c) {
            for (int t = 0; t < TABLES; t++) {
                for (int n = 0; n < linesOf(1 - what); n++) {
                    int sum = onLine(t, what, i, n) + c * onLine(t, what, j, n);
                    putOnLine(t, what, i, n, reduce(sum, prime));
                }
            }
        }

        void multiplyLine(int what, int i, int c) {
            for (int t = 0; t < TABLES; t++) {
                for (int n = 0; n < linesOf(1 - what); n++) {
                    putOnLine(t, what, i, n, reduce(c * onLine(t, what, i, n), prime));
                }
            }
        }

        void exchangeLines(int what, int i, int j) {
            for (int t = 0; t < TABLES; t++) {
                for (int n = 0; n < linesOf(1 - what); n++) {
                    int held = onLine(t, what, i, n);
                    putOnLine(t, what, i, n, onLine(t, what, j, n));
                    putOnLine(t, what, j, n, held);
                }
            }
        }

        void exchangeTables() {
            for (int p = 0; p < PLACES; p++) {
                exchangeSpots(p, PLACES + p);
            }
        }

        void flip() {
            for (int t = 0; t < TABLES; t++) {
                for (int i = 0; i < MOST_LINES; i++) {
                    for (int j = 0; j < i; j++) {
                        exchangeSpots(spot(t, i, j), spot(t, j, i));
                    }
                }
            }
            int held = rows;
            rows = columns;
            columns = held;
        }

        void shift() {
            for (int p = 0; p < PLACES; p++) {
                values[p] = reduce(values[p] - values[PLACES + p], prime);
            }
        }

        int placesNotZero() {
            int found = 0;
            for (int p = 0; p < TABLES * PLACES; p++) {
                if (values[p] != 0) {
                    found++;
                }
            }
            return found;
        }

        int sumOf(int t) {
            int sum = 0;
            for (int p = 0; p < PLACES; p++) {
                sum += values[t * PLACES + p];
            }
            return sum;
        }

        private int onLine(int t, int what, int line, int n) {
            return what == 0 ? valueAt(t, line, n) : valueAt(t, n, line);
        }

        private void putOnLine(int t, int what, int line, int n, int v) {
            if (what == 0) {
                putValue(t, line, n, v);
            } else {
                putValue(t, n, line, v);
            }
        }

        private void exchangeSpots(int one, int other) {
            int held = values[one];
            values[one] = values[other];
            values[other] = held;
        }

        private static int spot(int t, int i, int j) {
            return t * PLACES + i * MOST_LINES + j;
        }
    }

    /** THE TAPE; its text is read into a draft, so that a text with a FAULT leaves the pair as it is. */
    private static final class TextReader {
        private static final int END = 0;
        private static final int NAME = 1;
        private static final int NUMBER = 2;
        private static final int SEMICOLON = 3;

        private static final int NO_LINE = 0;
        private static final int PRIME_LINE = 1;
        private static final int COL_LINE = 2;
        private static final int ROW_LINE = 3;
        private static final int INF_LINE = 4;
        private static final int AT_LINE = 5;

        private static final int NO_TOKEN = 1;
        private static final int NOT_THERE = 2;
        private static final int OUT_OF_BOUNDS = 3;
        private static final int PRIME_AGAIN = 4;
        private static final int TOO_LARGE = 5;
        private static final int X_TOO_LARGE = 6;

        private static final int MOST_FIGURES = 2;
        private static final int MOST_X = 6;

        private final byte[] bytes;
        private final Pair draft;
        private int many;
        private int place;
        private int kind;
        private int start;
        private int number;
        private int lines;
        private int largestX;
        private boolean primeTold;
        private int faultKind;
        private int faultPlace;

        TextReader() {
            bytes = new byte[TAPE_PLACES];
            draft = new Pair();
        }

        /** False if THE TAPE is full. */
        boolean addByte(int c) {
            if (many >= TAPE_PLACES) {
                return false;
            }
            bytes[many] = (byte) c;
            many++;
            return true;
        }

        void readText() {
            place = 0;
            largestX = -1;
            primeTold = false;
            faultKind = 0;
            faultPlace = 0;
            draft.makeEmpty();
            lines = 0;
            boolean more = true;
            for (int turn = 0; turn <= many && more; turn++) {
                more = readToken() && kind != END && readLine();
                lines += more ? 1 : 0;
            }
            if (faultKind == 0 && largestX >= draft.prime) {
                stopAt(X_TOO_LARGE, many);
            }
        }

        private boolean readLine() {
            int line = kind == NAME ? lineOfName() : NO_LINE;
            if (line == NO_LINE) {
                return stopAt(NOT_THERE, start);
            }
            boolean taken = line == PRIME_LINE ? readPrime() : readBlock(line);
            if (!taken || !readToken()) {
                return false;
            }
            return kind == SEMICOLON || stopAt(NOT_THERE, start);
        }

        private boolean readPrime() {
            if (primeTold) {
                return stopAt(PRIME_AGAIN, start);
            }
            primeTold = true;
            if (!readNumber(2, MOST_PRIME)) {
                return false;
            }
            if (number == 4 || number == 6) {
                return stopAt(OUT_OF_BOUNDS, start);
            }
            draft.prime = number;
            return true;
        }

        private boolean readBlock(int line) {
            int x = 0;
            if (line == AT_LINE) {
                if (!readNumber(0, MOST_X)) {
                    return false;
                }
                x = number;
                largestX = Math.max(largestX, x);
            }
            int least = line == COL_LINE || line == ROW_LINE ? 0 : 1;
            if (!readNumber(least, MOST_LINES)) {
                return false;
            }
            int m = draft.rows + number + (line == ROW_LINE ? 1 : 0);
            int n = draft.columns + number + (line == COL_LINE ? 1 : 0);
            if (m > MOST_LINES || n > MOST_LINES) {
                return stopAt(TOO_LARGE, start);
            }
            putBlock(line, x, m, n);
            return true;
        }

        private void putBlock(int line, int x, int m, int n) {
            int top = draft.rows;
            int left = draft.columns;
            draft.growTo(m, n);
            for (int i = 0; i < number; i++) {
                int here = top + i;
                int down = left + i;
                // What would stand behind the block's last column is no PLACE, and putValue leaves it out.
                if (line == AT_LINE) {
                    draft.putValue(0, here, down, x);
                    draft.putValue(0, here, down + 1, 1);
                    draft.putValue(1, here, down, 1);
                } else if (line == ROW_LINE) {
                    draft.putValue(0, here, down, 1);
                    draft.putValue(1, here + 1, down, 1);
                } else {
                    draft.putValue(0, here, down, 1);
                    draft.putValue(1, here, down + 1, 1);
                }
            }
        }

        private boolean readNumber(int least, int most) {
            if (!readToken()) {
                return false;
            }
            if (kind != NUMBER) {
                return stopAt(NOT_THERE, start);
            }
            return number >= least && number <= most || stopAt(OUT_OF_BOUNDS, start);
        }

        private boolean readToken() {
            place = endOfRun(' ', ' ');
            start = place;
            if (place >= many) {
                kind = END;
                return true;
            }
            int first = bytes[place];
            if (first >= 'a' && first <= 'z') {
                kind = NAME;
                place = endOfRun('a', 'z');
                return true;
            }
            if (first >= '0' && first <= '9') {
                kind = NUMBER;
                place = endOfRun('0', '9');
                return place - start <= MOST_FIGURES ? takeNumber() : stopAt(NO_TOKEN, start);
            }
            if (first == ';') {
                kind = SEMICOLON;
                place++;
                return true;
            }
            return stopAt(NO_TOKEN, start);
        }

        private boolean takeNumber() {
            number = 0;
            for (int p = start; p < place; p++) {
                number = 10 * number + bytes[p] - '0';
            }
            return true;
        }

        private int endOfRun(char least, char most) {
            int p = place;
            while (p < many && bytes[p] >= least && bytes[p] <= most) {
                p++;
            }
            return p;
        }

        private int lineOfName() {
            if (nameIs("prime")) {
                return PRIME_LINE;
            }
            if (nameIs("col")) {
                return COL_LINE;
            }
            if (nameIs("row")) {
                return ROW_LINE;
            }
            if (nameIs("inf")) {
                return INF_LINE;
            }
            return nameIs("at") ? AT_LINE : NO_LINE;
        }

        private boolean nameIs(String name) {
            if (place - start != name.length()) {
                return false;
            }
            for (int i = 0; i < name.length(); i++) {
                if (bytes[start + i] != name.charAt(i)) {
                    return false;
                }
            }
            return true;
        }

        /** Always false, so that a step can end with it. */
        private boolean stopAt(int found, int where) {
            faultKind = found;
            faultPlace = where;
            return false;
        }
    }

    /** A system of linear equations in blocks, each of them so many times A and so many times B. */
    private static final class Equations {
        private static final int MOST_HIGH = MOST_LINES * (MOST_STEPS + 2);
        private static final int MOST_WIDE = MOST_LINES * (MOST_STEPS + 1);

        private final int[] numbers;
        private int prime;
        private int high;
        private int wide;

        Equations() {
            numbers = new int[MOST_HIGH * MOST_WIDE];
            prime = FIRST_PRIME;
        }

        void begin(Pair pair, int blocksHigh, int blocksWide) {
            prime = pair.prime;
            high = Math.min(blocksHigh * pair.rows, MOST_HIGH);
            wide = Math.min(blocksWide * pair.columns, MOST_WIDE);
            Arrays.fill(numbers, 0);
        }

        void putBlock(Pair pair, int down, int across, int timesA, int timesB) {
            for (int i = 0; i < pair.rows; i++) {
                for (int j = 0; j < pair.columns; j++) {
                    int sum = timesA * pair.valueAt(0, i, j) + timesB * pair.valueAt(1, i, j);
                    putNumber(down * pair.rows + i, across * pair.columns + j, reduce(sum, prime));
                }
            }
        }

        /** A times a column as one more, last column of all. */
        void addImageUnderA(Pair pair, int[] column) {
            if (wide >= MOST_WIDE) {
                return;
            }
            wide++;
            for (int i = 0; i < pair.rows; i++) {
                int sum = 0;
                for (int j = 0; j < pair.columns && j < column.length; j++) {
                    sum += pair.valueAt(0, i, j) * column[j];
                }
                putNumber(i, wide - 1, reduce(sum, prime));
            }
        }

        /** The numbers are used up. */
        int useUpForRank() {
            int done = 0;
            for (int c = 0; c < wide && done < high; c++) {
                int pivot = findPivot(done, c);
                if (pivot >= 0) {
                    exchangeRows(done, pivot, c);
                    clearBelow(done, c);
                    done++;
                }
            }
            return done;
        }

        private int findPivot(int from, int c) {
            for (int r = from; r < high; r++) {
                if (numbers[r * MOST_WIDE + c] != 0) {
                    return r;
                }
            }
            return -1;
        }

        private void exchangeRows(int one, int other, int from) {
            for (int c = from; c < wide; c++) {
                int held = numbers[one * MOST_WIDE + c];
                numbers[one * MOST_WIDE + c] = numbers[other * MOST_WIDE + c];
                numbers[other * MOST_WIDE + c] = held;
            }
        }

        /** Multiplies across rather than divides: a row times what is not 0 has the same rank. */
        private void clearBelow(int done, int from) {
            int lead = numbers[done * MOST_WIDE + from];
            for (int r = done + 1; r < high; r++) {
                int own = numbers[r * MOST_WIDE + from];
                if (own != 0) {
                    for (int c = from; c < wide; c++) {
                        int sum = lead * numbers[r * MOST_WIDE + c] - own * numbers[done * MOST_WIDE + c];
                        numbers[r * MOST_WIDE + c] = reduce(sum, prime);
                    }
                }
            }
        }

        private void putNumber(int r, int c, int v) {
            if (r >= 0 && r < high && c >= 0 && c < wide) {
                numbers[r * MOST_WIDE + c] = v;
            }
        }
    }

    /** What a pair is underneath, all of it got from dimensions of what solves equations. */
    private static final class Underneath {
        private static final int DEGREES = MOST_STEPS + 1;
        private static final int FORM_NUMBERS = 3 + 2 * DEGREES + (MOST_PRIME + 1) * MOST_STEPS;

        private final Equations equations;
        private final Pair flipped;
        private final int[] colCounts;
        private final int[] rowCounts;
        private final int[] column;

        Underneath() {
            flipped = new Pair();
            equations = new Equations();
            colCounts = new int[DEGREES];
            rowCounts = new int[DEGREES];
            column = new int[MOST_LINES];
        }

        int rankAt(Pair pair, int x) {
            putChains(pair, x, 1);
            return equations.useUpForRank();
        }

        int nullsOf(Pair pair, int d) {
            equations.begin(pair, d + 2, d + 1);
            for (int i = 0; i <= d; i++) {
                equations.putBlock(pair, i, i, 1, 0);
                equations.putBlock(pair, i + 1, i, 0, -1);
            }
            return equations.wide - equations.useUpForRank();
        }

        int chainsAt(Pair pair, int x, int k) {
            putChains(pair, x, k);
            return equations.wide - equations.useUpForRank();
        }

        int stepsOf(Pair pair, int k) {
            equations.begin(pair, k, k + 1);
            for (int i = 0; i < k; i++) {
                equations.putBlock(pair, i, i, -1, 0);
                equations.putBlock(pair, i, i + 1, 0, 1);
            }
            return equations.wide - equations.useUpForRank();
        }

        /** Steps that begin with the same column differ by steps from 0, which are the chains beyond all. */
        int goersOf(Pair pair, int k) {
            return stepsOf(pair, k) - chainsAt(pair, pair.prime, k);
        }

        /** Takes a column told by figures, the last one first; false if it is no such column. */
        boolean takeColumn(Pair pair, int told) {
            if (told < 0) {
                return false;
            }
            int left = told;
            for (int j = 0; j < pair.columns && j < MOST_LINES; j++) {
                column[j] = left % 10;
                left = left / 10;
                if (column[j] >= pair.prime) {
                    return false;
                }
            }
            return left == 0;
        }

        /** The column taken last can go on if A times it brings no new rank to what leads on from it. */
        boolean columnCanGo(Pair pair, int k) {
            putChains(pair, pair.prime, k);
            int without = equations.useUpForRank();
            putChains(pair, pair.prime, k);
            if (k > 0) {
                equations.addImageUnderA(pair, column);
            }
            return equations.useUpForRank() == without;
        }

        int colIndex(Pair pair, int i) {
            countIndices(pair, colCounts);
            return indexIn(colCounts, i);
        }

        int rowIndex(Pair pair, int i) {
            countIndices(flippedOf(pair), rowCounts);
            return indexIn(rowCounts, i);
        }

        int howManyCols(Pair pair) {
            return countIndices(pair, colCounts);
        }

        int howManyRows(Pair pair) {
            return countIndices(flippedOf(pair), rowCounts);
        }

        /** Lengths fall, so the i-th is the greatest k with more than i of length k or more. */
        int lengthAt(Pair pair, int x, int i) {
            int cols = countIndices(pair, colCounts);
            int reached = 0;
            int before = 0;
            for (int k = 1; k <= MOST_STEPS; k++) {
                int here = chainsAt(pair, x, k);
                if (here - before - cols > i) {
                    reached = k;
                }
                before = here;
            }
            return reached == 0 ? NONE : reached;
        }

        /** All lengths at x from the first to the last, summed. */
        int lengthsFrom(Pair pair, int first, int last) {
            int cols = countIndices(pair, colCounts);
            int sum = 0;
            for (int x = first; x <= last && x <= MOST_PRIME; x++) {
                // As many as are of length k or more, over all k: the differences add up to the last CHAINS.
                sum += chainsAt(pair, x, MOST_STEPS) - MOST_STEPS * cols;
            }
            return sum;
        }

        /** How many COLUMNS the blocks of all COL and ROW indices have. */
        int columnsOfIndices(Pair pair) {
            countIndices(pair, colCounts);
            countIndices(flippedOf(pair), rowCounts);
            int sum = 0;
            for (int d = 0; d < DEGREES; d++) {
                sum += (d + 1) * colCounts[d] + d * rowCounts[d];
            }
            return sum;
        }

        /** All that alike() compares, in one row of numbers. */
        void tellForm(Pair pair, int[] form) {
            Arrays.fill(form, 0);
            countIndices(pair, colCounts);
            countIndices(flippedOf(pair), rowCounts);
            int at = putIn(form, 0, pair.prime);
            at = putIn(form, at, pair.rows);
            at = putIn(form, at, pair.columns);
            for (int d = 0; d < DEGREES; d++) {
                at = putIn(form, at, colCounts[d]);
                at = putIn(form, at, rowCounts[d]);
            }
            // With the same COL indices the lengths are the same just when the chains are.
            for (int x = 0; x <= pair.prime; x++) {
                for (int k = 1; k <= MOST_STEPS; k++) {
                    at = putIn(form, at, chainsAt(pair, x, k));
                }
            }
        }

        private void putChains(Pair pair, int x, int k) {
            boolean beyond = x == pair.prime;
            equations.begin(pair, k, k);
            for (int i = 0; i < k; i++) {
                equations.putBlock(pair, i, i, beyond ? 0 : 1, beyond ? 1 : -x);
                if (i > 0) {
                    equations.putBlock(pair, i, i - 1, beyond ? -1 : 0, beyond ? 0 : -1);
                }
            }
        }

        /** How many there are; counts tells how often each is among them. */
        private int countIndices(Pair pair, int[] counts) {
            int all = 0;
            int before = 0;
            int beforeThat = 0;
            for (int d = 0; d < DEGREES && d < counts.length; d++) {
                int here = nullsOf(pair, d);
                counts[d] = here - 2 * before + beforeThat;
                all += counts[d];
                beforeThat = before;
                before = here;
            }
            return all;
        }

        private Pair flippedOf(Pair pair) {
            flipped.takeFrom(pair);
            flipped.flip();
            return flipped;
        }

        private static int indexIn(int[] counts, int i) {
            int seen = 0;
            for (int d = 0; d < counts.length; d++) {
                seen += counts[d];
                if (i < seen) {
                    return d;
                }
            }
            return NONE;
        }

        private static int putIn(int[] form, int at, int v) {
            if (at >= 0 && at < form.length) {
                form[at] = v;
            }
            return at + 1;
        }
    }

    /** A row of CELLS of one lane, or nothing; what the machine would find is looked for before it can. */
    private static final class Sheet {
        private static final int NOTHING = -1;

        private final int[] cells;
        private int lane;
        private int size;

        Sheet() {
            cells = new int[MOST_CELLS];
            size = NOTHING;
        }

        boolean isNothing() {
            return size == NOTHING;
        }

        void makeNew(int ofLane, int n) {
            Arrays.fill(cells, 0);
            lane = ofLane;
            size = Math.min(n, MOST_CELLS);
        }

        int findAt(int i) {
            if (isNothing()) {
                return FOUND_NULL;
            }
            return i < 0 || i >= size ? FOUND_INDEX : 0;
        }

        /** Nothing can be taken as of any lane, as in Java; only its CELLS are missing. */
        int findFour(int asLane, int first) {
            if (isNothing()) {
                return FOUND_NULL;
            }
            if (asLane != lane) {
                return FOUND_CAST;
            }
            return first < 0 || first > size - CELLS_A_READ ? FOUND_INDEX : 0;
        }

        int cellAt(int i) {
            return findAt(i) == 0 ? cells[i] : 0;
        }

        void putCell(int i, int v) {
            if (findAt(i) == 0) {
                cells[i] = lane == 0 ? (byte) v : lane == 1 ? (short) v : v;
            }
        }
    }
}
