/** The edges that the document names for what the tables are underneath (promises 8 to 15). */
public final class BoundaryFormTest {
    private static final int BAD = -1;
    private static final int NONE = -4;
    private static final int LOWEST = Integer.MIN_VALUE;
    private static final int HIGHEST = Integer.MAX_VALUE;
    private static final int[] PRIMES = {2, 3, 5, 7};
    private static final int[] FAR = {LOWEST, LOWEST + 1, -1000, 1000, HIGHEST - 1, HIGHEST};

    private static final Check CHECK = new Check("BoundaryFormTest");

    private static void due(String call, long got, long want) {
        CHECK.due(call, got, want);
    }

    public static void main(String[] args) {
        xIs0ToPrime();
        rankFromNoneToFull();
        rankBeyondAllIsThatOfB();
        nullsTakes0To4();
        nullsFromNoneToFull();
        colIsBadBelow0AndNoneBehind();
        rowIsBadBelow0AndNoneBehind();
        indicesRiseFrom0To3();
        chainsTakes0To4();
        chainsFromNoneToFull();
        lengthIsBadBelow0AndNoneBehind();
        lengthsFallFrom4To1();
        lengthsAtTheLastXAndBeyond();
        stepsTakes0To4();
        stepsFromNoneToFull();
        goTakes0To4();
        goTakesFiguresBelowPrime();
        goReadsTheLastFigureFirst();
        goWithoutColumns();
        goBeginsWithTheColumnItself();
        sizesOfAllKindsAgainstTheModel();
        refusedCallsChangeNothing();
        CHECK.finish();
    }

    // ---- x, promise 8

    private static void xIs0ToPrime() {
        for (int prime : PRIMES) {
            for (PencilForms p : new PencilForms[] {Check.sized(prime, 0, 0), Check.told("prime " + prime + ";at 0 1;inf 2;col 0;")}) {
                for (int x = -2; x <= 9; x++) {
                    boolean is = x >= 0 && x <= prime;
                    String what = "x " + x + " modulo " + prime;
                    due("rank, " + what, p.rank(x) == BAD ? BAD : 0, is ? 0 : BAD);
                    due("chains, " + what, p.chains(x, 0), is ? 0 : BAD);
                    due("length, " + what, p.length(x, 9), is ? NONE : BAD);
                }
                for (int x : FAR) {
                    due("rank(" + x + ")", p.rank(x), BAD);
                    due("chains(" + x + ", 1)", p.chains(x, 1), BAD);
                    due("length(" + x + ", 0)", p.length(x, 0), BAD);
                }
            }
        }
    }

    private static void rankFromNoneToFull() {
        for (int prime : PRIMES) {
            for (int x = 0; x <= prime; x++) {
                due("rank of nothing", Check.sized(prime, 0, 0).rank(x), 0);
                due("rank without COLUMNS", Check.sized(prime, 4, 0).rank(x), 0);
                due("rank without ROWS", Check.sized(prime, 0, 4).rank(x), 0);
                due("rank of 0", Check.sized(prime, 4, 4).rank(x), 0);
                due("rank of col 3", Check.told("prime " + prime + ";col 3;").rank(x), 3);
                due("rank of at 0 4", Check.told("prime " + prime + ";at 0 4;").rank(x), x == 0 ? 3 : 4);
                due("rank of at " + (prime - 1) + " 1", Check.told("prime " + prime + ";at " + (prime - 1) + " 1;").rank(x), x == prime - 1 ? 0 : 1);
                due("rank of inf 4", Check.told("prime " + prime + ";inf 4;").rank(x), x == prime ? 3 : 4);
            }
        }
    }

    private static void rankBeyondAllIsThatOfB() {
        PencilForms p = Check.filled(5, "1000/0100", "0000/0030");
        due("rank(0) is that of A", p.rank(0), 2);
        due("rank(5) is that of B", p.rank(5), 1);
        p.turn(0);
        due("in each other's place: rank(0)", p.rank(0), 1);
        due("in each other's place: rank(5)", p.rank(5), 2);
    }

    // ---- promises 9 to 11

    private static void nullsTakes0To4() {
        PencilForms p = Check.told("col 1;col 0;");
        for (int d = 0; d <= 4; d++) {
            due("nulls(" + d + ")", p.nulls(d), 2 * d + 1);
        }
        due("nulls(-1)", p.nulls(-1), BAD);
        due("nulls(5)", p.nulls(5), BAD);
        for (int d : FAR) {
            due("nulls(" + d + ")", p.nulls(d), BAD);
        }
    }

    private static void nullsFromNoneToFull() {
        for (int d = 0; d <= 4; d++) {
            due("nulls(" + d + ") of nothing", new PencilForms().nulls(d), 0);
            due("nulls(" + d + ") without COLUMNS", Check.sized(3, 4, 0).nulls(d), 0);
            due("nulls(" + d + ") without ROWS", Check.sized(3, 0, 4).nulls(d), 4 * (d + 1));
            due("nulls(" + d + ") of 0", Check.sized(2, 4, 4).nulls(d), 4 * (d + 1));
            due("nulls(" + d + ") of inf 4", Check.told("inf 4;").nulls(d), 0);
            due("nulls(" + d + ") of at 0 4", Check.told("at 0 4;").nulls(d), 0);
            due("nulls(" + d + ") of row 3", Check.told("row 3;").nulls(d), 0);
            for (int e = 0; e <= 3; e++) {
                due("nulls(" + d + ") of col " + e, Check.told("col " + e + ";").nulls(d), Math.max(0, d - e + 1));
            }
        }
    }

    private static void colIsBadBelow0AndNoneBehind() {
        due("col(0) of nothing", new PencilForms().col(0), NONE);
        due("col(-1) of nothing: BAD comes ahead of NONE", new PencilForms().col(-1), BAD);
        for (int many = 1; many <= 4; many++) {
            PencilForms p = Check.sized(3, 0, many);
            due("the last of " + many, p.col(many - 1), 0);
            due("behind the last of " + many, p.col(many), NONE);
            due("col(-1)", p.col(-1), BAD);
            due("col(lowest)", p.col(LOWEST), BAD);
            due("col(highest)", p.col(HIGHEST), NONE);
        }
        for (int i = 0; i < 4; i++) {
            due("without COLUMNS: col(" + i + ")", Check.sized(3, 4, 0).col(i), NONE);
        }
    }

    private static void rowIsBadBelow0AndNoneBehind() {
        due("row(0) of nothing", new PencilForms().row(0), NONE);
        due("row(-1) of nothing: BAD comes ahead of NONE", new PencilForms().row(-1), BAD);
        for (int many = 1; many <= 4; many++) {
            PencilForms p = Check.sized(3, many, 0);
            due("the last of " + many, p.row(many - 1), 0);
            due("behind the last of " + many, p.row(many), NONE);
            due("row(-1)", p.row(-1), BAD);
            due("row(lowest)", p.row(LOWEST), BAD);
            due("row(highest)", p.row(HIGHEST), NONE);
        }
        for (int i = 0; i < 4; i++) {
            due("without ROWS: row(" + i + ")", Check.sized(3, 0, 4).row(i), NONE);
        }
    }

    private static void indicesRiseFrom0To3() {
        for (int e = 0; e <= 3; e++) {
            PencilForms p = Check.told("col " + e + ";");
            due("col " + e, p.col(0), e);
            due("one alone", p.col(1), NONE);
            p.turn(1);
            due("col " + e + " flipped", p.row(0), e);
            due("no COL index is left", p.col(0), NONE);
            p = Check.told("row " + e + ";");
            due("row " + e, p.row(0), e);
            due("one alone", p.row(1), NONE);
        }
        PencilForms p = Check.told("col 2;col 0;");
        due("rising, though told falling: col(0)", p.col(0), 0);
        due("rising: col(1)", p.col(1), 2);
        p = Check.told("row 2;row 0;");
        due("rising, though told falling: row(0)", p.row(0), 0);
        due("rising: row(1)", p.row(1), 2);
        p = Check.told("col 1;col 1;");
        due("the same twice: col(0)", p.col(0), 1);
        due("the same twice: col(1)", p.col(1), 1);
        due("the same twice: col(2)", p.col(2), NONE);
    }

    // ---- promises 12 and 13

    private static void chainsTakes0To4() {
        PencilForms p = Check.told("prime 5;at 4 3;");
        int[] want = {0, 1, 2, 3, 3};
        for (int k = 0; k <= 4; k++) {
            due("chains(4, " + k + ")", p.chains(4, k), want[k]);
            due("chains(3, " + k + ")", p.chains(3, k), 0);
            due("chains(5, " + k + ")", p.chains(5, k), 0);
        }
        due("chains(4, -1)", p.chains(4, -1), BAD);
        due("chains(4, 5)", p.chains(4, 5), BAD);
        due("chains(-1, 5)", p.chains(-1, 5), BAD);
        for (int k : FAR) {
            due("chains(4, " + k + ")", p.chains(4, k), BAD);
        }
    }

    private static void chainsFromNoneToFull() {
        for (int prime : PRIMES) {
            for (int x = 0; x <= prime; x++) {
                for (int k = 0; k <= 4; k++) {
                    due("chains of nothing", Check.sized(prime, 0, 0).chains(x, k), 0);
                    due("chains without COLUMNS", Check.sized(prime, 4, 0).chains(x, k), 0);
                    due("chains without ROWS", Check.sized(prime, 0, 4).chains(x, k), 4 * k);
                    due("chains of 0", Check.sized(prime, 4, 4).chains(x, k), 4 * k);
                    due("chains of row 3", Check.told("prime " + prime + ";row 3;").chains(x, k), 0);
                    due("chains of col 3", Check.told("prime " + prime + ";col 3;").chains(x, k), k);
                    due("chains of inf 4", Check.told("prime " + prime + ";inf 4;").chains(x, k), x == prime ? k : 0);
                    due("chains of at 0 4", Check.told("prime " + prime + ";at 0 4;").chains(x, k), x == 0 ? k : 0);
                }
            }
        }
    }

    private static void lengthIsBadBelow0AndNoneBehind() {
        for (int x = 0; x <= 7; x++) {
            due("length of nothing at " + x, new PencilForms().length(x, 0), NONE);
            due("BAD comes ahead of NONE", new PencilForms().length(x, -1), BAD);
        }
        due("length(8, -1)", new PencilForms().length(8, -1), BAD);
        String[] ones = {"at 1 1;", "at 1 1;at 1 1;", "at 1 1;at 1 1;at 1 1;", "at 1 1;at 1 1;at 1 1;at 1 1;"};
        for (int many = 1; many <= 4; many++) {
            PencilForms p = Check.told("prime 2;" + ones[many - 1]);
            due("the last of " + many, p.length(1, many - 1), 1);
            due("behind the last of " + many, p.length(1, many), NONE);
            due("length(1, -1)", p.length(1, -1), BAD);
            due("length(1, lowest)", p.length(1, LOWEST), BAD);
            due("length(1, highest)", p.length(1, HIGHEST), NONE);
            due("length(0, 0)", p.length(0, 0), NONE);
            due("length(2, 0)", p.length(2, 0), NONE);
            due("length(3, 0)", p.length(3, 0), BAD);
        }
    }

    private static void lengthsFallFrom4To1() {
        for (int q = 1; q <= 4; q++) {
            PencilForms p = Check.told("inf " + q + ";");
            due("inf " + q, p.length(7, 0), q);
            due("one alone", p.length(7, 1), NONE);
            p = Check.told("at 3 " + q + ";");
            due("at 3 " + q, p.length(3, 0), q);
            due("one alone", p.length(3, 1), NONE);
        }
        PencilForms p = Check.told("at 0 1;at 0 3;");
        due("falling, though told rising", p.length(0, 0), 3);
        due("falling: length(0, 1)", p.length(0, 1), 1);
        p = Check.told("inf 1;inf 2;inf 1;");
        due("falling: length(7, 0)", p.length(7, 0), 2);
        due("falling: length(7, 1)", p.length(7, 1), 1);
        due("falling: length(7, 2)", p.length(7, 2), 1);
        due("falling: length(7, 3)", p.length(7, 3), NONE);
        p = Check.told("at 2 2;at 2 2;");
        due("the same twice", p.length(2, 1), 2);
        p = Check.told("col 0;at 2 3;");
        due("COL indices are no lengths", p.length(2, 0), 3);
        due("COL indices are no lengths at another x", p.length(1, 0), NONE);
        due("COL indices are no lengths beyond all", p.length(7, 0), NONE);
    }

    private static void lengthsAtTheLastXAndBeyond() {
        for (int prime : PRIMES) {
            PencilForms p = Check.told("prime " + prime + ";at 0 1;at " + (prime - 1) + " 2;inf 1;");
            due("at 0 modulo " + prime, p.length(0, 0), 1);
            due("at the last x modulo " + prime, p.length(prime - 1, 0), 2);
            due("beyond all modulo " + prime, p.length(prime, 0), 1);
            due("all within", p.rule(6), 3);
            due("all beyond", p.rule(5), 1);
            p.turn(2);
            due("A less B: 0 comes round to the last x", p.length(prime - 1, 0), 1);
            due("A less B: the last x comes to the one below", p.length(prime - 2, 0), 2);
            due("A less B: beyond all stays", p.length(prime, 0), 1);
        }
    }

    // ---- promises 14 and 15

    private static void stepsTakes0To4() {
        PencilForms p = Check.told("prime 3;inf 3;");
        int[] from = {3, 2, 1, 0, 0};
        for (int k = 0; k <= 4; k++) {
            due("steps(" + k + ", 0)", p.steps(k, 0), 3);
            due("steps(" + k + ", 1)", p.steps(k, 1), from[k]);
            due("steps(" + k + ", 2)", p.steps(k, 2), BAD);
            due("steps(" + k + ", -1)", p.steps(k, -1), BAD);
        }
        for (int what = 0; what < 2; what++) {
            due("steps(-1, " + what + ")", p.steps(-1, what), BAD);
            due("steps(5, " + what + ")", p.steps(5, what), BAD);
            for (int far : FAR) {
                due("steps(" + far + ", " + what + ")", p.steps(far, what), BAD);
                due("steps(0, " + far + ")", p.steps(0, far), BAD);
            }
        }
    }

    private static void stepsFromNoneToFull() {
        for (int k = 0; k <= 4; k++) {
            due("steps of nothing", new PencilForms().steps(k, 0), 0);
            due("goers of nothing", new PencilForms().steps(k, 1), 0);
        }
        for (int prime : PRIMES) {
            String ahead = "prime " + prime + ";";
            for (int k = 0; k <= 4; k++) {
                stepsAre("no COLUMNS", Check.sized(prime, 4, 0), k, 0, 0);
                stepsAre("no ROWS", Check.sized(prime, 0, 4), k, 4 * (k + 1), 4);
                stepsAre("all is 0", Check.sized(prime, 4, 4), k, 4 * (k + 1), 4);
                stepsAre("at the last x", Check.told(ahead + "at " + (prime - 1) + " 4;"), k, 4, 4);
                stepsAre("inf 4", Check.told(ahead + "inf 4;"), k, 4, 4 - k);
                stepsAre("col 3", Check.told(ahead + "col 3;"), k, 4 + k, 4);
                stepsAre("row 3", Check.told(ahead + "row 3;"), k, Math.max(0, 3 - k), Math.max(0, 3 - k));
            }
        }
    }

    private static void stepsAre(String what, PencilForms p, int k, int all, int goers) {
        due(what + " modulo " + p.rule(2) + ": steps(" + k + ", 0)", p.steps(k, 0), all);
        due(what + " modulo " + p.rule(2) + ": steps(" + k + ", 1)", p.steps(k, 1), goers);
    }

    private static void goTakes0To4() {
        PencilForms p = Check.told("prime 3;inf 4;");
        // of inf 4 row i of a column comes k rows further down, and may not leave the block: rows 4 less k on must be 0
        int[] columns = {0, 1, 10, 100, 1000};
        int[] most = {4, 3, 2, 1, 0};
        for (int n = 0; n < columns.length; n++) {
            for (int k = 0; k <= 4; k++) {
                due("go(" + columns[n] + ", " + k + ")", p.go(columns[n], k), k <= most[n] ? 1 : 0);
            }
            due("go(" + columns[n] + ", -1)", p.go(columns[n], -1), BAD);
            due("go(" + columns[n] + ", 5)", p.go(columns[n], 5), BAD);
        }
        for (int k : FAR) {
            due("go(0, " + k + ")", p.go(0, k), BAD);
        }
    }

    /** Whether a number tells a column: so many figures at most, each below PRIME. */
    private static boolean isColumn(int v, int prime, int columns) {
        String figures = v == 0 ? "" : String.valueOf(v);
        for (char c : figures.toCharArray()) {
            if (c - '0' >= prime) {
                return false;
            }
        }
        return figures.length() <= columns;
    }

    private static void goTakesFiguresBelowPrime() {
        for (int prime : PRIMES) {
            for (int columns = 0; columns <= 4; columns++) {
                PencilForms p = Check.sized(prime, 2, columns);
                for (int v = 0; v <= 10999; v++) {
                    // an object answers 512 calls, no more
                    p = v % 400 == 0 ? Check.sized(prime, 2, columns) : p;
                    due("go(" + v + ", 4) modulo " + prime + ", COLUMNS " + columns, p.go(v, 4), isColumn(v, prime, columns) ? 1 : BAD);
                }
                for (int v : new int[] {-1, -10, LOWEST, HIGHEST, 100000, 1000000000, 1111111111}) {
                    due("go(" + v + ", 0)", p.go(v, 0), BAD);
                }
            }
        }
    }

    private static void goReadsTheLastFigureFirst() {
        // A is 1 in row 0 alone, B is 0: a column can go on just when what is in its row 0 is 0
        PencilForms p = Check.filled(7, "1000", "0000");
        for (int v : new int[] {10, 100, 1000, 6660}) {
            due("row 0 is 0: go(" + v + ", 1)", p.go(v, 1), 1);
        }
        for (int v : new int[] {1, 6, 11, 6661}) {
            due("row 0 is not 0: go(" + v + ", 1)", p.go(v, 1), 0);
        }
        p = Check.filled(7, "0001", "0000");
        due("row 3 is the figure ahead of all: go(1000, 1)", p.go(1000, 1), 0);
        due("figures ahead are 0: go(666, 1)", p.go(666, 1), 1);
        p = Check.filled(7, "0/0/0/1", "0/0/0/0");
        due("the last of four ROWS leads nowhere: go(1, 1)", p.go(1, 1), 0);
        due("but 0 does: go(0, 1)", p.go(0, 1), 1);
    }

    private static void goWithoutColumns() {
        for (int rows = 0; rows <= 4; rows += 4) {
            PencilForms p = Check.sized(2, rows, 0);
            for (int k = 0; k <= 4; k++) {
                due("no COLUMNS: go(0, " + k + ")", p.go(0, k), 1);
                due("no COLUMNS: go(1, " + k + ")", p.go(1, k), BAD);
            }
        }
    }

    private static void goBeginsWithTheColumnItself() {
        PencilForms p = Check.filled(3, "11/00", "00/00");
        for (int v : new int[] {0, 1, 2, 10, 11, 12, 20, 21, 22}) {
            due("every column can GO 0: go(" + v + ", 0)", p.go(v, 0), 1);
            boolean led = (v % 10 + v / 10) % 3 == 0;
            due("A v0 must be 0: go(" + v + ", 1)", p.go(v, 1), led ? 1 : 0);
        }
    }

    // ---- all of it, of every size

    /** Tables of every size, of three kinds: 0, full of 1, and of figures that go round. */
    private static void sizesOfAllKindsAgainstTheModel() {
        for (int prime : new int[] {2, 3}) {
            for (int m = 0; m <= 4; m++) {
                for (int n = 0; n <= 4; n++) {
                    for (int kind = 0; kind < 3; kind++) {
                        againstModel(prime, m, n, kind);
                    }
                }
            }
        }
    }

    private static void againstModel(int prime, int m, int n, int kind) {
        PencilForms p = Check.sized(prime, m, n);
        Model model = new Model();
        for (char c : ("prime " + prime + ";").toCharArray()) {
            model.feed(c);
        }
        model.text();
        for (int i = 0; i < m; i++) {
            model.open(0);
        }
        for (int j = 0; j < n; j++) {
            model.open(1);
        }
        for (int place = 0; place < 2 * m * n; place++) {
            int t = place % 2;
            int i = place / 2 / n;
            int j = place / 2 % n;
            int v = kind == 0 ? 0 : kind == 1 ? 1 : (place * place + 3 * place / 2) % prime;
            due("set", p.set(t, i, j, v), model.set(t, i, j, v));
        }
        String what = " of " + m + " ROWS, " + n + " COLUMNS modulo " + prime + ", kind " + kind;
        for (int w = 3; w <= 7; w++) {
            due("rule(" + w + ")" + what, p.rule(w), model.rule(w));
        }
        for (int i = 0; i <= 4; i++) {
            due("col(" + i + ")" + what, p.col(i), model.col(i));
            due("row(" + i + ")" + what, p.row(i), model.row(i));
            due("nulls(" + i + ")" + what, p.nulls(i), model.nulls(i));
            due("steps(" + i + ", 0)" + what, p.steps(i, 0), model.steps(i, 0));
            due("steps(" + i + ", 1)" + what, p.steps(i, 1), model.steps(i, 1));
            for (int x = 0; x <= prime; x++) {
                due("chains(" + x + ", " + i + ")" + what, p.chains(x, i), model.chains(x, i));
                due("length(" + x + ", " + i + ")" + what, p.length(x, i), model.length(x, i));
            }
        }
    }

    private static void refusedCallsChangeNothing() {
        Refusals rich = new Refusals(CHECK, Refusals::rich, 10);
        for (int no : new int[] {-1, 6}) {
            rich.due("rank(" + no + ")", BAD, p -> p.rank(no));
            rich.due("chains(" + no + ", 1)", BAD, p -> p.chains(no, 1));
            rich.due("length(" + no + ", 0)", BAD, p -> p.length(no, 0));
        }
        for (int no : new int[] {-1, 5}) {
            rich.due("nulls(" + no + ")", BAD, p -> p.nulls(no));
            rich.due("chains(1, " + no + ")", BAD, p -> p.chains(1, no));
            rich.due("steps(" + no + ", 0)", BAD, p -> p.steps(no, 0));
            rich.due("go(1, " + no + ")", BAD, p -> p.go(1, no));
        }
        rich.due("steps(1, 2)", BAD, p -> p.steps(1, 2));
        rich.due("col(-1)", BAD, p -> p.col(-1));
        rich.due("row(-1)", BAD, p -> p.row(-1));
        rich.due("length(0, -1)", BAD, p -> p.length(0, -1));
        rich.due("col(9)", NONE, p -> p.col(9));
        rich.due("row(9)", NONE, p -> p.row(9));
        rich.due("length(0, 9)", NONE, p -> p.length(0, 9));
        for (int no : new int[] {-1, 5, 50, 500, 1000}) {
            rich.due("go(" + no + ", 1)", BAD, p -> p.go(no, 1));
        }
        // what asks changes nothing either, though tables are flipped and forms compared on the way
        rich.due("rule(7)", 0, p -> p.rule(7));
        rich.due("row(0)", rich().row(0), p -> p.row(0));
        rich.due("alike(0)", 0, p -> p.alike(0));
        rich.due("go(121, 3)", rich().go(121, 3), p -> p.go(121, 3));
    }

    private static PencilForms rich() {
        return Refusals.rich();
    }
}
