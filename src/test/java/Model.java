import java.util.ArrayList;
import java.util.Collections;
import java.util.List;
import java.util.regex.Matcher;
import java.util.regex.Pattern;

/**
 * The document once more, in another way: dimensions by counting all columns one by one (no elimination),
 * sheets as real Java arrays whose faults the Java machine itself finds, tokens by a regular expression.
 */
final class Model {
    private static final Pattern TOKEN = Pattern.compile(" *(?:([a-z]+)|([0-9]+)|(;)|(\\z)|([^ ]))", Pattern.DOTALL);

    private static final class State {
        int prime = 7;
        int rows;
        int columns;
        int[][][] tables = {{}, {}};

        State copy() {
            State s = new State();
            s.prime = prime;
            s.rows = rows;
            s.columns = columns;
            s.tables = new int[2][rows][];
            for (int t = 0; t < 2; t++) {
                for (int i = 0; i < rows; i++) {
                    s.tables[t][i] = tables[t][i].clone();
                }
            }
            return s;
        }

        State flipped() {
            State s = sized(prime, columns, rows);
            for (int t = 0; t < 2; t++) {
                for (int i = 0; i < rows; i++) {
                    for (int j = 0; j < columns; j++) {
                        s.tables[t][j][i] = tables[t][i][j];
                    }
                }
            }
            return s;
        }

        static State sized(int prime, int rows, int columns) {
            State s = new State();
            s.prime = prime;
            s.rows = rows;
            s.columns = columns;
            s.tables = new int[2][rows][columns];
            return s;
        }

        /** The same in another size: places that there were stay, new ones are 0. */
        State resized(int m, int n) {
            State s = sized(prime, m, n);
            for (int t = 0; t < 2; t++) {
                for (int i = 0; i < Math.min(m, rows); i++) {
                    for (int j = 0; j < Math.min(n, columns); j++) {
                        s.tables[t][i][j] = tables[t][i][j];
                    }
                }
            }
            return s;
        }

        int shape() {
            return 10 * rows + columns;
        }

        int columnsInAll() {
            int all = 1;
            for (int j = 0; j < columns; j++) {
                all *= prime;
            }
            return all;
        }

        /** What (a A and b B) makes of a column; both columns are numbers with figures below prime. */
        int image(int a, int b, int column) {
            int out = 0;
            for (int i = rows - 1; i >= 0; i--) {
                int sum = 0;
                int left = column;
                for (int j = 0; j < columns; j++) {
                    sum += (a * tables[0][i][j] + b * tables[1][i][j]) * (left % prime);
                    left /= prime;
                }
                out = out * prime + Math.floorMod(sum, prime);
            }
            return out;
        }

        int[] images(int a, int b) {
            int[] all = new int[columnsInAll()];
            for (int v = 0; v < all.length; v++) {
                all[v] = image(a, b, v);
            }
            return all;
        }

        int[] tableAt(int x) {
            return x == prime ? images(0, 1) : images(1, -x);
        }

        int log(long many) {
            int d = 0;
            while (many > 1) {
                if (many % prime != 0) {
                    throw new IllegalStateException("no dimension: " + many);
                }
                many /= prime;
                d++;
            }
            return d;
        }

        /** How many rows of columns end in each column, one step (on[w] is over[v]) further on. */
        long[] stepOn(long[] before, int[] over, int[] on) {
            long[] met = new long[2401];
            for (int v = 0; v < before.length; v++) {
                met[over[v]] += before[v];
            }
            long[] after = new long[before.length];
            for (int w = 0; w < after.length; w++) {
                after[w] = met[on[w]];
            }
            return after;
        }

        long[] chainEnds(int x, int k) {
            int[] over = x == prime ? images(1, 0) : images(0, 1);
            int[] on = tableAt(x);
            long[] ends = new long[on.length];
            for (int v = 0; v < ends.length; v++) {
                ends[v] = on[v] == 0 ? 1 : 0;
            }
            for (int i = 1; i < k; i++) {
                ends = stepOn(ends, over, on);
            }
            return ends;
        }

        int chains(int x, int k) {
            return k == 0 ? 0 : log(sum(chainEnds(x, k)));
        }

        int nulls(int d) {
            long[] ends = chainEnds(0, d + 1);
            int[] last = images(0, 1);
            long many = 0;
            for (int v = 0; v < ends.length; v++) {
                many += last[v] == 0 ? ends[v] : 0;
            }
            return log(many);
        }

        int rank(int x) {
            boolean[] hit = new boolean[2401];
            int many = 0;
            for (int y : tableAt(x)) {
                many += hit[y] ? 0 : 1;
                hit[y] = true;
            }
            return log(many);
        }

        int steps(int k) {
            long[] ends = new long[columnsInAll()];
            java.util.Arrays.fill(ends, 1);
            for (int i = 0; i < k; i++) {
                ends = stepOn(ends, images(1, 0), images(0, 1));
            }
            return log(sum(ends));
        }

        boolean[] goers(int k) {
            boolean[] can = new boolean[columnsInAll()];
            java.util.Arrays.fill(can, true);
            int[] byA = images(1, 0);
            int[] byB = images(0, 1);
            for (int i = 0; i < k; i++) {
                boolean[] reached = new boolean[2401];
                for (int v = 0; v < can.length; v++) {
                    if (can[v]) {
                        reached[byB[v]] = true;
                    }
                }
                for (int v = 0; v < can.length; v++) {
                    can[v] = reached[byA[v]];
                }
            }
            return can;
        }

        List<Integer> colIndices() {
            List<Integer> out = new ArrayList<>();
            for (int d = 0; d <= 4; d++) {
                int often = nulls(d) - (d > 0 ? 2 * nulls(d - 1) : 0) + (d > 1 ? nulls(d - 2) : 0);
                out.addAll(Collections.nCopies(often, d));
            }
            return out;
        }

        List<Integer> lengths(int x) {
            int cols = colIndices().size();
            List<Integer> out = new ArrayList<>();
            for (int k = 4; k >= 1; k--) {
                int orMore = chains(x, k) - chains(x, k - 1) - cols;
                while (out.size() < orMore) {
                    out.add(k);
                }
            }
            return out;
        }

        String form() {
            StringBuilder s = new StringBuilder();
            s.append(prime).append(' ').append(rows).append(' ').append(columns);
            s.append(' ').append(colIndices()).append(' ').append(flipped().colIndices());
            for (int x = 0; x <= prime; x++) {
                s.append(' ').append(lengths(x));
            }
            return s.toString();
        }

        static long sum(long[] all) {
            long sum = 0;
            for (long one : all) {
                sum += one;
            }
            return sum;
        }

        static int sum(List<Integer> all) {
            int sum = 0;
            for (int one : all) {
                sum += one;
            }
            return sum;
        }
    }

    private State now = new State();
    private final State[] images = new State[2];
    private final Object[] sheets = new Object[4];
    private final StringBuilder tape = new StringBuilder();
    private int textFault;
    private int torn;

    int feed(int c) {
        if (c < 0 || c > 127) {
            return -1;
        }
        if (tape.length() == 160) {
            return -3;
        }
        return tape.append((char) c).length();
    }

    int end(int n) {
        if (n < 0 || n > tape.length()) {
            return -1;
        }
        int had = tape.length();
        tape.setLength(n);
        return had;
    }

    private static final class Fault extends Exception {
        private static final long serialVersionUID = 1L;
        final int kind;
        final int place;

        Fault(int kind, int place) {
            super("fault " + kind + " at " + place);
            this.kind = kind;
            this.place = place;
        }
    }

    /** The tokens up to the first that is none: kind (n name, d number, ; semicolon, . end, ? none), place, text. */
    private static List<String[]> tokens(String s) {
        List<String[]> out = new ArrayList<>();
        Matcher m = TOKEN.matcher(s);
        int at = 0;
        while (m.find(at)) {
            String kind = m.group(1) != null ? "n" : m.group(2) != null ? "d" : m.group(3) != null ? ";" : m.group(4) != null ? "." : "?";
            int group = m.group(1) != null ? 1 : m.group(2) != null ? 2 : m.group(3) != null ? 3 : m.group(4) != null ? 4 : 5;
            if (kind.equals("d") && m.group(2).length() > 2) {
                kind = "?";
            }
            out.add(new String[] {kind, String.valueOf(m.start(group)), m.group(group)});
            at = m.end();
            if (kind.equals(".") || kind.equals("?")) {
                break;
            }
        }
        return out;
    }

    private static int place(String[] token) {
        return Integer.parseInt(token[1]);
    }

    private static String[] want(List<String[]> tokens, String kind) throws Fault {
        String[] token = tokens.remove(0);
        if (token[0].equals("?")) {
            throw new Fault(1, place(token));
        }
        if (!token[0].equals(kind)) {
            throw new Fault(2, place(token));
        }
        return token;
    }

    private static int number(List<String[]> tokens, int... allowed) throws Fault {
        String[] token = want(tokens, "d");
        int n = Integer.parseInt(token[2]);
        for (int one : allowed) {
            if (one == n) {
                return n;
            }
        }
        throw new Fault(3, place(token));
    }

    int text() {
        String s = tape.toString();
        tape.setLength(0);
        textFault = 0;
        try {
            List<int[]> blocks = new ArrayList<>();
            State made = new State();
            int lines = readLines(s, made, blocks);
            for (int[] b : blocks) {
                if (b[1] >= made.prime) {
                    throw new Fault(6, s.length());
                }
            }
            State built = State.sized(made.prime, made.rows, made.columns);
            int top = 0;
            int left = 0;
            for (int[] b : blocks) {
                putBlock(built, b, top, left);
                top += b[2] + (b[0] == 'r' ? 1 : 0);
                left += b[2] + (b[0] == 'c' ? 1 : 0);
            }
            now = built;
            images[0] = null;
            images[1] = null;
            return lines;
        } catch (Fault f) {
            textFault = f.kind;
            return -10 - f.place;
        }
    }

    private static int readLines(String s, State made, List<int[]> blocks) throws Fault {
        List<String[]> tokens = tokens(s);
        boolean primeTold = false;
        int lines = 0;
        while (!tokens.get(0)[0].equals(".")) {
            String[] name = want(tokens, "n");
            int q = place(tokens.get(0));
            int x = 0;
            switch (name[2]) {
                case "prime":
                    if (primeTold) {
                        throw new Fault(4, place(name));
                    }
                    primeTold = true;
                    made.prime = number(tokens, 2, 3, 5, 7);
                    break;
                case "at":
                    x = number(tokens, 0, 1, 2, 3, 4, 5, 6);
                    q = place(tokens.get(0));
                    block(made, blocks, 'a', x, number(tokens, 1, 2, 3, 4), q);
                    break;
                case "inf":
                    block(made, blocks, 'i', 0, number(tokens, 1, 2, 3, 4), q);
                    break;
                case "col":
                    block(made, blocks, 'c', 0, number(tokens, 0, 1, 2, 3, 4), q);
                    break;
                case "row":
                    block(made, blocks, 'r', 0, number(tokens, 0, 1, 2, 3, 4), q);
                    break;
                default:
                    throw new Fault(2, place(name));
            }
            want(tokens, ";");
            lines++;
        }
        return lines;
    }

    private static void block(State made, List<int[]> blocks, int kind, int x, int size, int place) throws Fault {
        made.rows += size + (kind == 'r' ? 1 : 0);
        made.columns += size + (kind == 'c' ? 1 : 0);
        if (made.rows > 4 || made.columns > 4) {
            throw new Fault(5, place);
        }
        blocks.add(new int[] {kind, x, size});
    }

    private static void putBlock(State s, int[] b, int top, int left) {
        int[][] tableA = s.tables[0];
        int[][] tableB = s.tables[1];
        for (int i = 0; i < b[2]; i++) {
            boolean more = i + 1 < b[2];
            switch (b[0]) {
                case 'c':
                    tableA[top + i][left + i] = 1;
                    tableB[top + i][left + i + 1] = 1;
                    break;
                case 'r':
                    tableA[top + i][left + i] = 1;
                    tableB[top + i + 1][left + i] = 1;
                    break;
                case 'i':
                    tableA[top + i][left + i] = 1;
                    if (more) {
                        tableB[top + i][left + i + 1] = 1;
                    }
                    break;
                default:
                    tableB[top + i][left + i] = 1;
                    tableA[top + i][left + i] = b[1];
                    if (more) {
                        tableA[top + i][left + i + 1] = 1;
                    }
                    break;
            }
        }
    }

    int fault() {
        return textFault;
    }

    int rule(int what) {
        if (what >= 0 && what <= 2) {
            return what == 0 ? now.rows : what == 1 ? now.columns : now.prime;
        }
        int beyond = State.sum(now.lengths(now.prime));
        int within = 0;
        for (int x = 0; x < now.prime; x++) {
            within += State.sum(now.lengths(x));
        }
        List<Integer> cols = now.colIndices();
        List<Integer> rows = now.flipped().colIndices();
        int rest = now.columns - State.sum(cols) - cols.size() - State.sum(rows) - beyond - within;
        int[] all = {cols.size(), rows.size(), beyond, within, rest};
        return what < 0 || what > 7 ? -1 : all[what - 3];
    }

    private boolean isPlace(int t, int i, int j) {
        return t >= 0 && t <= 1 && i >= 0 && i < now.rows && j >= 0 && j < now.columns;
    }

    int cell(int t, int i, int j) {
        return isPlace(t, i, j) ? now.tables[t][i][j] : -1;
    }

    int rank(int x) {
        return x < 0 || x > now.prime ? -1 : now.rank(x);
    }

    int nulls(int d) {
        return d < 0 || d > 4 ? -1 : now.nulls(d);
    }

    private static int ith(List<Integer> all, int i) {
        return i < 0 ? -1 : i < all.size() ? all.get(i) : -4;
    }

    int col(int i) {
        return ith(now.colIndices(), i);
    }

    int row(int i) {
        return ith(now.flipped().colIndices(), i);
    }

    int chains(int x, int k) {
        return x < 0 || x > now.prime || k < 0 || k > 4 ? -1 : now.chains(x, k);
    }

    int length(int x, int i) {
        return x < 0 || x > now.prime ? -1 : ith(now.lengths(x), i);
    }

    int steps(int k, int what) {
        if (k < 0 || k > 4 || what < 0 || what > 1) {
            return -1;
        }
        if (what == 0) {
            return now.steps(k);
        }
        int many = 0;
        for (boolean can : now.goers(k)) {
            many += can ? 1 : 0;
        }
        return now.log(many);
    }

    int go(int v, int k) {
        if (k < 0 || k > 4 || v < 0) {
            return -1;
        }
        String figures = v == 0 ? "" : Integer.toString(v);
        if (figures.length() > now.columns) {
            return -1;
        }
        int column = 0;
        for (char c : figures.toCharArray()) {
            if (c - '0' >= now.prime) {
                return -1;
            }
            column = column * now.prime + c - '0';
        }
        return now.goers(k)[column] ? 1 : 0;
    }

    int set(int t, int i, int j, int v) {
        if (!isPlace(t, i, j) || v < 0 || v >= now.prime) {
            return -1;
        }
        int was = now.tables[t][i][j];
        now.tables[t][i][j] = v;
        return was;
    }

    int open(int what) {
        if (what < 0 || what > 1) {
            return -1;
        }
        if ((what == 0 ? now.rows : now.columns) == 4) {
            return -3;
        }
        now = now.resized(now.rows + 1 - what, now.columns + what);
        return what == 0 ? now.rows : now.columns;
    }

    int cut(int m, int n) {
        if (m < 0 || m > now.rows || n < 0 || n > now.columns) {
            return -1;
        }
        int was = now.shape();
        now = now.resized(m, n);
        return was;
    }

    /** Lines are rows; columns are the rows of both flipped. */
    private int onLines(int what, java.util.function.Predicate<State> change) {
        if (what < 0 || what > 1) {
            return -1;
        }
        State s = what == 0 ? now.copy() : now.flipped();
        if (!change.test(s)) {
            return -1;
        }
        now = what == 0 ? s : s.flipped();
        return 1;
    }

    int mix(int what, int i, int j, int c) {
        return onLines(what, s -> {
            if (i == j || i < 0 || j < 0 || i >= s.rows || j >= s.rows || c < 1 || c >= s.prime) {
                return false;
            }
            for (int[][] table : s.tables) {
                for (int n = 0; n < s.columns; n++) {
                    table[i][n] = (table[i][n] + c * table[j][n]) % s.prime;
                }
            }
            return true;
        });
    }

    int times(int what, int i, int c) {
        return onLines(what, s -> {
            if (i < 0 || i >= s.rows || c < 1 || c >= s.prime) {
                return false;
            }
            for (int[][] table : s.tables) {
                for (int n = 0; n < s.columns; n++) {
                    table[i][n] = c * table[i][n] % s.prime;
                }
            }
            return true;
        });
    }

    int swap(int what, int i, int j) {
        return onLines(what, s -> {
            if (i < 0 || j < 0 || i >= s.rows || j >= s.rows) {
                return false;
            }
            for (int[][] table : s.tables) {
                int[] held = table[i];
                table[i] = table[j];
                table[j] = held;
            }
            return true;
        });
    }

    int scramble(int seed, int n) {
        if (n < 0 || n > 100) {
            return -1;
        }
        long next = seed;
        int done = 0;
        for (int turn = 0; turn < n; turn++) {
            next = (next * 1103515245L + 12345L) & 0xFFFFFFFFL;
            int got = (int) (next / 65536 % 32768);
            int lines = got % 2 == 0 ? now.rows : now.columns;
            if (lines > 0 && mix(got % 2, got / 2 % lines, got / 8 % lines, got / 32 % now.prime) == 1) {
                done++;
            }
        }
        return done;
    }

    int turn(int what) {
        State s = now.copy();
        if (what == 0) {
            s.tables = new int[][][] {s.tables[1], s.tables[0]};
        } else if (what == 1) {
            s = now.flipped();
        } else if (what == 2) {
            for (int i = 0; i < s.rows; i++) {
                for (int j = 0; j < s.columns; j++) {
                    s.tables[0][i][j] = (s.tables[0][i][j] + s.prime - s.tables[1][i][j]) % s.prime;
                }
            }
        } else {
            return -1;
        }
        now = s;
        return now.shape();
    }

    int keep(int k) {
        if (k < 0 || k > 1) {
            return -1;
        }
        int was = images[k] == null ? 0 : 1;
        images[k] = now.copy();
        return was;
    }

    int back(int k) {
        if (k < 0 || k > 1) {
            return -1;
        }
        if (images[k] == null) {
            return -2;
        }
        now = images[k].copy();
        return now.shape();
    }

    int alike(int k) {
        if (k < 0 || k > 1) {
            return -1;
        }
        if (images[k] == null) {
            return -2;
        }
        return now.form().equals(images[k].form()) ? 1 : 0;
    }

    int sheet(int k, int lane, int n) {
        if (k < 0 || k > 3 || lane < 0 || lane > 2 || n > 40) {
            return -1;
        }
        try {
            sheets[k] = lane == 0 ? new byte[n] : lane == 1 ? (Object) new short[n] : new int[n];
            return 1;
        } catch (NegativeArraySizeException e) {
            return -10 - 4;
        }
    }

    int lay(int k, int i, int v) {
        if (k < 0 || k > 3) {
            return -1;
        }
        try {
            if (sheets[k] instanceof byte[]) {
                ((byte[]) sheets[k])[i] = (byte) v;
            } else if (sheets[k] instanceof short[]) {
                ((short[]) sheets[k])[i] = (short) v;
            } else {
                ((int[]) sheets[k])[i] = v;
            }
            return 1;
        } catch (RuntimeException e) {
            return -10 - found(e);
        }
    }

    private static int found(RuntimeException e) {
        return e instanceof NullPointerException ? 1 : e instanceof ArrayIndexOutOfBoundsException ? 2
                : e instanceof ClassCastException ? 3 : 99;
    }

    private static int cellOf(Object sheet, int lane, int i) {
        return lane == 0 ? ((byte[]) sheet)[i] : lane == 1 ? ((short[]) sheet)[i] : ((int[]) sheet)[i];
    }

    int read(int k, int lane, int f, int n) {
        if (k < 0 || k > 3 || lane < 0 || lane > 2 || n < 0 || n > 10) {
            return -1;
        }
        State was = now.copy();
        int came = 0;
        int found = 0;
        try {
            while (came < n) {
                int[] four = new int[4];
                for (int c = 0; c < 4; c++) {
                    four[c] = cellOf(sheets[k], lane, f + 4 * came + c);
                }
                if (set(four[0], four[1], four[2], four[3]) < 0) {
                    now = was;
                    return -20 - came;
                }
                came++;
            }
        } catch (RuntimeException e) {
            found = found(e);
        }
        torn = found;
        return came;
    }

    int torn() {
        return torn;
    }

    int count(int what) {
        int[] sums = new int[2];
        int notZero = 0;
        for (int t = 0; t < 2; t++) {
            for (int[] line : now.tables[t]) {
                for (int v : line) {
                    sums[t] += v;
                    notZero += v != 0 ? 1 : 0;
                }
            }
        }
        switch (what) {
            case 0:
                return (images[0] == null ? 0 : 1) + (images[1] == null ? 0 : 1);
            case 1:
                return notZero;
            case 2:
                return tape.length();
            case 3:
                return sheets[0] == null ? -4 : java.lang.reflect.Array.getLength(sheets[0]);
            case 4:
                return sums[0];
            case 5:
                return sums[1];
            default:
                return -1;
        }
    }
}
