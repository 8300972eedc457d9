/** The edges that the document names for sheets, what is read of them, and what is counted (promises 27 to 31). */
public final class BoundarySheetTest {
    private static final int BAD = -1;
    private static final int NONE = -4;
    private static final int NULL = 1;
    private static final int INDEX = 2;
    private static final int CAST = 3;
    private static final int LOWEST = Integer.MIN_VALUE;
    private static final int HIGHEST = Integer.MAX_VALUE;
    private static final int MOST_CELLS = 40;
    private static final int[] PRIMES = {2, 3, 5, 7};

    private static final Check CHECK = new Check("BoundarySheetTest");

    private static void due(String call, long got, long want) {
        CHECK.due(call, got, want);
    }

    public static void main(String[] args) {
        sheetTakes0To3();
        sheetTakesLanes0To2();
        sheetTakes0To40Cells();
        aSheetBelow0IsAFault();
        aNewSheetIsAll0();
        layTakesCellsThatThereAre();
        layOfNothingIsNull();
        layKeepsTheLowestBitsOfAByte();
        layKeepsTheLowestBitsOfAShort();
        layKeepsAllBitsOfAnInt();
        laneIsJudgedByWhatIsLaid();
        readTakesSheetsAndLanes();
        readTakes0To10();
        readNotOnce();
        readFromEveryCell();
        readFromAPlaceThatGoesRound();
        readOfEverySize();
        readOfNothing();
        readOfAnotherLane();
        readGoesByWhatSetRefuses();
        readIsRefusedByTheFirst();
        readComesOneBehindAnother();
        readLeavesTheSheet();
        tornIsThatOfTheLatestReadThatEnded();
        countTakes0To5();
        countWhenEmptyAndFull();
        refusedCallsChangeNothing();
        CHECK.finish();
    }

    /** Lays CELLS from a CELL on. */
    private static void lay(PencilForms p, int k, int f, int... cells) {
        for (int c = 0; c < cells.length; c++) {
            due("lay(" + k + ", " + (f + c) + ", " + cells[c] + ")", p.lay(k, f + c, cells[c]), 1);
        }
    }

    /** Tables of 2 ROWS, 3 COLUMNS, all 0, modulo 5. */
    private static PencilForms small() {
        return Check.sized(5, 2, 3);
    }

    // ---- promise 27

    private static void sheetTakes0To3() {
        for (int k = -2; k <= 5; k++) {
            due("sheet(" + k + ", 0, 1)", new PencilForms().sheet(k, 0, 1), k >= 0 && k <= 3 ? 1 : BAD);
        }
        for (int k = 0; k <= 3; k++) {
            PencilForms p = new PencilForms();
            p.sheet(k, 1, 5);
            for (int other = 0; other <= 3; other++) {
                due("SHEET " + k + " is one, SHEET " + other, p.lay(other, 4, 1), other == k ? 1 : -10 - NULL);
            }
        }
        for (int far : new int[] {LOWEST, HIGHEST}) {
            due("sheet(" + far + ", 0, 1)", new PencilForms().sheet(far, 0, 1), BAD);
            due("sheet(" + far + ", 0, -1)", new PencilForms().sheet(far, 0, -1), BAD);
        }
    }

    private static void sheetTakesLanes0To2() {
        for (int lane = -2; lane <= 4; lane++) {
            due("sheet(0, " + lane + ", 1)", new PencilForms().sheet(0, lane, 1), lane >= 0 && lane <= 2 ? 1 : BAD);
            due("sheet(0, " + lane + ", -1)", new PencilForms().sheet(0, lane, -1), lane >= 0 && lane <= 2 ? -14 : BAD);
        }
        for (int far : new int[] {LOWEST, HIGHEST}) {
            due("sheet(0, " + far + ", 1)", new PencilForms().sheet(0, far, 1), BAD);
        }
    }

    private static void sheetTakes0To40Cells() {
        for (int lane = 0; lane < 3; lane++) {
            for (int n = 0; n <= MOST_CELLS; n++) {
                PencilForms p = new PencilForms();
                due("sheet(0, " + lane + ", " + n + ")", p.sheet(0, lane, n), 1);
                due("its CELLS", p.count(3), n);
            }
            for (int n : new int[] {MOST_CELLS + 1, MOST_CELLS + 2, 1000, HIGHEST}) {
                PencilForms p = new PencilForms();
                due("sheet(0, " + lane + ", " + n + ")", p.sheet(0, lane, n), BAD);
                due("still nothing", p.count(3), NONE);
            }
        }
    }

    private static void aSheetBelow0IsAFault() {
        for (int n : new int[] {-1, -2, -41, LOWEST}) {
            PencilForms p = new PencilForms();
            due("sheet(0, 0, " + n + ")", p.sheet(0, 0, n), -14);
            due("still nothing", p.count(3), NONE);
            due("torn() is of read() alone", p.torn(), 0);
            due("BAD comes ahead: sheet(4, 0, " + n + ")", p.sheet(4, 0, n), BAD);
            due("BAD comes ahead: sheet(-1, 0, " + n + ")", p.sheet(-1, 0, n), BAD);
            due("BAD comes ahead: sheet(0, 3, " + n + ")", p.sheet(0, 3, n), BAD);
        }
    }

    private static void aNewSheetIsAll0() {
        PencilForms p = small();
        p.sheet(1, 2, 8);
        lay(p, 1, 0, 1, 1, 1, 4, 1, 1, 2, 4);
        due("a new one in its place", p.sheet(1, 0, 8), 1);
        p.set(0, 0, 0, 3);
        due("it is of the new lane", p.read(1, 0, 0, 2), 2);
        due("all CELLS are 0, so A at (0, 0) is", p.cell(0, 0, 0), 0);
        due("no other PLACE came", p.count(1), 0);
        p.sheet(1, 0, 4);
        due("it has as many CELLS as told", p.lay(1, 4, 0), -12);
        p.sheet(1, 0, 0);
        due("none at all", p.lay(1, 0, 0), -12);
        p.sheet(1, 0, 40);
        p.lay(1, 39, 4);
        p.sheet(1, 0, 20);
        p.sheet(1, 0, 40);
        due("the last CELL is 0 as well", p.read(1, 0, 36, 1), 1);
        due("A at (0, 0)", p.cell(0, 0, 0), 0);
    }

    // ---- promise 28

    private static void layTakesCellsThatThereAre() {
        for (int n : new int[] {0, 1, 4, 39, 40}) {
            PencilForms p = new PencilForms();
            p.sheet(2, n % 3, n);
            for (int i = -2; i <= 42; i++) {
                due("lay(2, " + i + ", 1) of " + n, p.lay(2, i, 1), i >= 0 && i < n ? 1 : -10 - INDEX);
            }
            due("lay(2, lowest, 1)", p.lay(2, LOWEST, 1), -10 - INDEX);
            due("lay(2, highest, 1)", p.lay(2, HIGHEST, 1), -10 - INDEX);
            due("torn() is of read() alone", p.torn(), 0);
        }
        for (int k : new int[] {-1, 4, LOWEST, HIGHEST}) {
            due("lay(" + k + ", 0, 1)", Refusals.rich().lay(k, 0, 1), BAD);
            due("BAD comes ahead: lay(" + k + ", -1, 1)", Refusals.rich().lay(k, -1, 1), BAD);
        }
    }

    private static void layOfNothingIsNull() {
        for (int k = 0; k < 4; k++) {
            for (int i : new int[] {-1, 0, 1, 40, LOWEST, HIGHEST}) {
                due("NULL comes ahead of INDEX: lay(" + k + ", " + i + ", 0)", new PencilForms().lay(k, i, 0), -10 - NULL);
            }
        }
    }

    /** What is laid is read into A at (0, 0): a CELL that is 0 to PRIME less 1 comes, any other one is refused. */
    private static void laid(int lane, int v, int cell) {
        PencilForms p = Check.sized(7, 1, 1);
        p.sheet(0, lane, 4);
        due("lay(0, 3, " + v + ")", p.lay(0, 3, v), 1);
        boolean fits = cell >= 0 && cell < 7;
        due("lane " + lane + ": " + v + " is laid, read", p.read(0, lane, 0, 1), fits ? 1 : -20);
        due("lane " + lane + ": " + v + " is laid, there", p.cell(0, 0, 0), fits ? cell : 0);
    }

    private static void layKeepsTheLowestBitsOfAByte() {
        for (int v = -600; v <= 600; v++) {
            int low = Math.floorMod(v, 256);
            laid(0, v, low > 127 ? low - 256 : low);
        }
        laid(0, 65536 + 3, 3);
        laid(0, 32768, 0);
        laid(0, HIGHEST, -1);
        laid(0, LOWEST, 0);
        laid(0, LOWEST + 6, 6);
        laid(0, LOWEST + 7, 7);
        laid(0, HIGHEST - 250, 5);
    }

    private static void layKeepsTheLowestBitsOfAShort() {
        for (int high = -3; high <= 3; high++) {
            for (int v = -9; v <= 9; v++) {
                laid(1, high * 65536 + v, v);
                laid(1, high * 65536 + 32768 + v, v < 0 ? 32768 + v : v - 32768);
            }
        }
        for (int v : new int[] {128, 255, 256, 259, -256, 512, 4096}) {
            laid(1, v, v);
        }
        laid(1, HIGHEST, -1);
        laid(1, LOWEST, 0);
        laid(1, LOWEST + 6, 6);
    }

    private static void layKeepsAllBitsOfAnInt() {
        for (int v = -9; v <= 9; v++) {
            laid(2, v, v);
        }
        for (int v : new int[] {256, 259, 65536, 65539, -65536, 1 << 24, 1 << 30, LOWEST, LOWEST + 3, HIGHEST}) {
            laid(2, v, v);
        }
    }

    private static void laneIsJudgedByWhatIsLaid() {
        int[] round = {256, 65536};
        for (int lane = 0; lane < 2; lane++) {
            PencilForms p = small();
            p.sheet(3, lane, 4);
            lay(p, 3, 0, round[lane] + 1, round[lane] * 3 + 1, 2 - round[lane], 4 + round[lane] * 2);
            due("TABLE, row, column, what is to be there have all gone round", p.read(3, lane, 0, 1), 1);
            due("B at (1, 2)", p.cell(1, 1, 2), 4);
        }
    }

    // ---- promise 29

    private static void readTakesSheetsAndLanes() {
        for (int k = -2; k <= 5; k++) {
            for (int lane = -2; lane <= 4; lane++) {
                boolean fits = k >= 0 && k <= 3 && lane >= 0 && lane <= 2;
                due("read(" + k + ", " + lane + ", 0, 1) of nothing", new PencilForms().read(k, lane, 0, 1), fits ? 0 : BAD);
                due("read(" + k + ", " + lane + ", 0, 0) of nothing", new PencilForms().read(k, lane, 0, 0), fits ? 0 : BAD);
            }
        }
        for (int far : new int[] {LOWEST, HIGHEST}) {
            due("read(" + far + ", 0, 0, 1)", new PencilForms().read(far, 0, 0, 1), BAD);
            due("read(0, " + far + ", 0, 1)", new PencilForms().read(0, far, 0, 1), BAD);
        }
        for (int k = 0; k <= 3; k++) {
            for (int lane = 0; lane <= 2; lane++) {
                PencilForms p = small();
                p.sheet(k, lane, 4);
                lay(p, k, 3, 2);
                due("read(" + k + ", " + lane + ", 0, 1)", p.read(k, lane, 0, 1), 1);
                due("it came", p.cell(0, 0, 0), 2);
            }
        }
    }

    private static void readTakes0To10() {
        for (int n = -2; n <= 12; n++) {
            PencilForms p = small();
            p.sheet(0, 0, MOST_CELLS);
            boolean fits = n >= 0 && n <= 10;
            due("read(0, 0, 0, " + n + ") of 40", p.read(0, 0, 0, n), fits ? n : BAD);
            due("no FAULT", p.torn(), 0);
        }
        for (int n : new int[] {LOWEST, HIGHEST}) {
            due("read(0, 0, 0, " + n + ")", Refusals.rich().read(0, 0, 0, n), BAD);
        }
    }

    private static void readNotOnce() {
        for (int f : new int[] {0, -1, 39, 40, LOWEST, HIGHEST}) {
            for (int k = 0; k <= 3; k++) {
                PencilForms p = Refusals.rich();
                due("there was a FAULT", p.torn(), INDEX);
                due("read(" + k + ", " + Math.min(k, 2) + ", " + f + ", 0)", p.read(k, Math.min(k, 2), f, 0), 0);
                due("the machine finds nothing", p.torn(), 0);
            }
        }
        // the document leaves room here: what is read not once is taken as of no lane either (NOTES.md)
        for (int lane = 1; lane < 3; lane++) {
            PencilForms p = Refusals.rich();
            due("read(0, " + lane + ", 0, 0), another lane", p.read(0, lane, 0, 0), 0);
            due("no CAST", p.torn(), 0);
        }
    }

    private static void readFromEveryCell() {
        for (int f = -5; f <= MOST_CELLS + 1; f++) {
            PencilForms p = small();
            p.sheet(2, 2, MOST_CELLS);
            int whole = f < 0 ? 0 : Math.max(0, (MOST_CELLS - f) / 4);
            due("read(2, 2, " + f + ", 10) of 40", p.read(2, 2, f, 10), whole);
            due("its FAULT", p.torn(), whole == 10 ? 0 : INDEX);
            due("one alone", p.read(2, 2, f, 1), Math.min(whole, 1));
            due("its FAULT", p.torn(), whole >= 1 ? 0 : INDEX);
            if (whole > 0) {
                due("just those that are whole", p.read(2, 2, f, whole), whole);
                due("no FAULT", p.torn(), 0);
            }
        }
    }

    private static void readFromAPlaceThatGoesRound() {
        int[] far = {LOWEST, LOWEST + 1, LOWEST + 4, LOWEST + 36, -40, -37, -36, -8, -4, -3, -2, -1, 37, 38, 39, 40, 41, 100,
            HIGHEST - 40, HIGHEST - 36, HIGHEST - 8, HIGHEST - 4, HIGHEST - 3, HIGHEST - 2, HIGHEST - 1, HIGHEST};
        for (int f : far) {
            for (int n = 1; n <= 10; n++) {
                PencilForms p = small();
                p.set(0, 0, 0, 3);
                p.sheet(1, 1, MOST_CELLS);
                due("read(1, 1, " + f + ", " + n + ")", p.read(1, 1, f, n), 0);
                due("INDEX", p.torn(), INDEX);
                due("none came", p.cell(0, 0, 0), 3);
            }
        }
    }

    private static void readOfEverySize() {
        for (int size = 0; size <= MOST_CELLS; size++) {
            PencilForms p = small();
            p.sheet(0, 1, size);
            for (int i = 0; i < size / 4; i++) {
                lay(p, 0, 4 * i, 1, 1, 2, 1 + i % 4);
            }
            // what is left behind the last whole one would be refused, if it were looked at
            for (int i = size / 4 * 4; i < size; i++) {
                lay(p, 0, i, -1);
            }
            due("read(0, 1, 0, 10) of " + size, p.read(0, 1, 0, 10), size / 4);
            due("its FAULT", p.torn(), size == MOST_CELLS ? 0 : INDEX);
            due("the last whole one came", p.cell(1, 1, 2), size < 4 ? 0 : 1 + (size / 4 - 1) % 4);
        }
    }

    private static void readOfNothing() {
        for (int lane = 0; lane < 3; lane++) {
            for (int f : new int[] {0, -1, 40, LOWEST, HIGHEST}) {
                PencilForms p = small();
                due("read(3, " + lane + ", " + f + ", 10) of nothing", p.read(3, lane, f, 10), 0);
                due("NULL comes ahead of INDEX, and is no CAST", p.torn(), NULL);
            }
        }
    }

    private static void readOfAnotherLane() {
        for (int own = 0; own < 3; own++) {
            for (int lane = 0; lane < 3; lane++) {
                for (int size : new int[] {0, 3, 4, 40}) {
                    PencilForms p = small();
                    p.sheet(0, own, size);
                    due("a row of lane " + own + " taken as of lane " + lane, p.read(0, lane, 0, 1), lane == own && size >= 4 ? 1 : 0);
                    due("its FAULT", p.torn(), lane != own ? CAST : size < 4 ? INDEX : 0);
                    due("from ahead of CELL 0", p.read(0, lane, -1, 1), 0);
                    due("CAST comes ahead of INDEX", p.torn(), lane != own ? CAST : INDEX);
                }
            }
        }
        PencilForms p = small();
        p.sheet(0, 0, 4);
        lay(p, 0, 0, 9, 9, 9, 9);
        due("CAST comes ahead of what set() refuses", p.read(0, 1, 0, 1), 0);
        due("CAST", p.torn(), CAST);
    }

    private static void readGoesByWhatSetRefuses() {
        int[] most = {2, 2, 3, 5};
        for (int which = 0; which < 4; which++) {
            for (int v : new int[] {-128, -2, -1, 0, 1, 2, 3, 4, 5, 6, 7, 8, 127}) {
                PencilForms p = small();
                p.sheet(0, 0, 4);
                lay(p, 0, which, v);
                boolean fits = v >= 0 && v < most[which];
                due("CELL " + which + " is " + v, p.read(0, 0, 0, 1), fits ? 1 : -20);
            }
        }
        for (int prime : PRIMES) {
            PencilForms p = Check.sized(prime, 4, 4);
            p.sheet(0, 0, 4);
            lay(p, 0, 0, 1, 3, 3, prime - 1);
            due("the last that is taken modulo " + prime, p.read(0, 0, 0, 1), 1);
            due("it came", p.cell(1, 3, 3), prime - 1);
            lay(p, 0, 3, prime);
            due("the first that is refused modulo " + prime, p.read(0, 0, 0, 1), -20);
            due("it stays", p.cell(1, 3, 3), prime - 1);
        }
        PencilForms p = new PencilForms();
        p.sheet(0, 0, 4);
        due("there is no PLACE at all", p.read(0, 0, 0, 1), -20);
        p.open(0);
        due("a ROW, but no COLUMN", p.read(0, 0, 0, 1), -20);
        p.open(1);
        due("now there is", p.read(0, 0, 0, 1), 1);
    }

    private static void readIsRefusedByTheFirst() {
        for (int bad = 0; bad < 10; bad++) {
            PencilForms p = small();
            p.sheet(0, 0, MOST_CELLS);
            for (int i = 0; i < 10; i++) {
                lay(p, 0, 4 * i, 0, i % 2, i % 3, i >= bad ? 5 : 1);
            }
            due("the " + bad + "th is refused", p.read(0, 0, 0, 10), -20 - bad);
            due("then none came", p.count(1), 0);
            due("those ahead of it alone", p.read(0, 0, 0, bad), bad);
            due("no FAULT", p.torn(), 0);
        }
        PencilForms p = small();
        p.sheet(0, 0, 9);
        lay(p, 0, 0, 0, 0, 0, 1, 0, 0, 0, 5);
        due("refused ahead of INDEX", p.read(0, 0, 0, 3), -21);
        due("none came", p.cell(0, 0, 0), 0);
        due("no FAULT is told", p.torn(), 0);
        lay(p, 0, 7, 4);
        due("INDEX alone", p.read(0, 0, 0, 3), 2);
        due("INDEX", p.torn(), INDEX);
        due("those ahead came", p.cell(0, 0, 0), 4);
        due("from another CELL on i is counted anew", p.read(0, 0, 5, 1), -20);
    }

    private static void readComesOneBehindAnother() {
        PencilForms p = small();
        p.sheet(0, 2, MOST_CELLS);
        for (int i = 0; i < 10; i++) {
            lay(p, 0, 4 * i, 1, 1, 1, (3 * i + 1) % 5);
        }
        for (int n = 1; n <= 10; n++) {
            due("read(0, 2, 0, " + n + ")", p.read(0, 2, 0, n), n);
            due("the last one stands", p.cell(1, 1, 1), (3 * n - 2) % 5);
        }
    }

    private static void readLeavesTheSheet() {
        PencilForms p = small();
        p.sheet(0, 1, 8);
        lay(p, 0, 0, 0, 1, 2, 4, 1, 0, 0, 3);
        for (int n = 0; n < 3; n++) {
            due("read", p.read(0, 1, 0, 2), 2);
            CHECK.tables("what came", p, "000/004", "300/000");
            p.cut(0, 0);
            due("refused, there is no PLACE", p.read(0, 1, 0, 2), -20);
            p.open(0);
            p.open(0);
            p.open(1);
            p.open(1);
            p.open(1);
        }
        due("CELLS", p.count(3), 8);
    }

    // ---- promises 30 and 31

    private static void tornIsThatOfTheLatestReadThatEnded() {
        PencilForms p = small();
        due("torn() ahead of all", p.torn(), 0);
        p.sheet(0, 0, 5);
        p.read(1, 0, 0, 1);
        due("NULL", p.torn(), NULL);
        due("asked again", p.torn(), NULL);
        p.lay(0, 9, 1);
        p.sheet(0, 0, -1);
        due("behind FAULTS of lay() and sheet()", p.torn(), NULL);
        due("BAD", p.read(0, 0, 0, 11), BAD);
        due("BAD", p.read(4, 0, 0, 1), BAD);
        due("BAD", p.read(0, 3, 0, 1), BAD);
        due("behind a read() that is BAD", p.torn(), NULL);
        lay(p, 0, 3, 5);
        due("refused by set()", p.read(0, 0, 0, 2), -20);
        due("behind a read() that set() refused", p.torn(), NULL);
        lay(p, 0, 3, 4);
        p.read(0, 0, 0, 2);
        due("INDEX", p.torn(), INDEX);
        p.read(0, 2, 0, 2);
        due("CAST", p.torn(), CAST);
        Check.type(p, "inf 1;");
        p.text();
        p.keep(0);
        p.back(0);
        due("behind other calls", p.torn(), CAST);
        due("all is whole", p.read(0, 0, 0, 1), 1);
        due("0", p.torn(), 0);
    }

    private static void countTakes0To5() {
        for (PencilForms p : new PencilForms[] {new PencilForms(), Refusals.rich(), Refusals.full()}) {
            for (int what = 0; what <= 5; what++) {
                CHECK.that("count(" + what + ") is taken", p.count(what) != BAD);
            }
            for (int what : new int[] {-1, 6, LOWEST, HIGHEST}) {
                due("count(" + what + ")", p.count(what), BAD);
            }
        }
    }

    private static void countWhenEmptyAndFull() {
        PencilForms p = new PencilForms();
        int[] nothing = {0, 0, 0, NONE, 0, 0};
        for (int what = 0; what <= 5; what++) {
            due("count(" + what + ") of nothing", p.count(what), nothing[what]);
        }
        p.sheet(1, 0, 7);
        due("another SHEET than 0", p.count(3), NONE);
        p.sheet(0, 0, 0);
        due("a row of no CELLS is not nothing", p.count(3), 0);
        p.sheet(0, 2, MOST_CELLS);
        due("a full row", p.count(3), MOST_CELLS);
        p = Check.sized(7, 4, 4);
        for (int place = 0; place < 32; place++) {
            p.set(place / 16, place / 4 % 4, place % 4, 6);
        }
        due("all PLACES", p.count(1), 32);
        due("all that A has is not modulo PRIME", p.count(4), 96);
        due("all that B has", p.count(5), 96);
        p.set(1, 3, 3, 0);
        due("one is 0", p.count(1), 31);
        due("A as before", p.count(4), 96);
        due("B less 6", p.count(5), 90);
        p.cut(4, 3);
        due("what is cut does not count", p.count(1), 24);
        due("nor in A", p.count(4), 72);
        p.keep(0);
        due("one IMAGE", p.count(0), 1);
        p.keep(0);
        due("the same again", p.count(0), 1);
        p.keep(1);
        due("both", p.count(0), 2);
    }

    private static void refusedCallsChangeNothing() {
        Refusals rich = new Refusals(CHECK, Refusals::rich, 10);
        rich.isNoticed("sheet(3, 0, 0)", 1, p -> p.sheet(3, 0, 0));
        rich.isNoticed("sheet(0, 1, 9)", 1, p -> p.sheet(0, 1, 9));
        rich.isNoticed("sheet(0, 0, 10)", 1, p -> p.sheet(0, 0, 10));
        for (int i = 0; i <= 8; i++) {
            int cell = i;
            rich.isNoticed("lay(2, " + i + ", 3)", 1, p -> p.lay(2, cell, 3));
        }
        rich.isNoticed("read(0, 0, 0, 2)", 2, p -> p.read(0, 0, 0, 2));
        rich.isNoticed("read(3, 0, 0, 1)", 0, p -> p.read(3, 0, 0, 1));
        rich.isNoticed("read(0, 0, 0, 0)", 0, p -> p.read(0, 0, 0, 0));
        for (int no : new int[] {-1, 4}) {
            rich.due("sheet(" + no + ", 0, 4)", BAD, p -> p.sheet(no, 0, 4));
            rich.due("lay(" + no + ", 0, 1)", BAD, p -> p.lay(no, 0, 1));
            rich.due("read(" + no + ", 0, 0, 1)", BAD, p -> p.read(no, 0, 0, 1));
        }
        for (int no : new int[] {-1, 3}) {
            rich.due("sheet(0, " + no + ", 4)", BAD, p -> p.sheet(0, no, 4));
            rich.due("read(0, " + no + ", 0, 1)", BAD, p -> p.read(0, no, 0, 1));
        }
        for (int no : new int[] {-1, 11}) {
            rich.due("read(0, 0, 0, " + no + ")", BAD, p -> p.read(0, 0, 0, no));
        }
        for (int no : new int[] {41, HIGHEST}) {
            rich.due("sheet(1, 1, " + no + ")", BAD, p -> p.sheet(1, 1, no));
        }
        for (int no : new int[] {-1, LOWEST}) {
            rich.due("sheet(1, 1, " + no + ")", -14, p -> p.sheet(1, 1, no));
            rich.due("sheet(3, 1, " + no + ")", -14, p -> p.sheet(3, 1, no));
        }
        for (int no : new int[] {-1, 9, LOWEST, HIGHEST}) {
            rich.due("lay(2, " + no + ", 3)", -12, p -> p.lay(2, no, 3));
            rich.due("lay(3, " + no + ", 3)", -11, p -> p.lay(3, no, 3));
        }
        for (int no : new int[] {-1, 6}) {
            rich.due("count(" + no + ")", BAD, p -> p.count(no));
        }
        refusedReads();
    }

    private static void refusedReads() {
        Refusals second = new Refusals(CHECK, () -> readable(4, 9), 10);
        second.due("the one at 1 is refused", -21, p -> p.read(0, 0, 0, 2));
        second.due("the one at 1 is refused, ahead of INDEX", -21, p -> p.read(0, 0, 0, 3));
        Refusals first = new Refusals(CHECK, () -> readable(9, 4), 10);
        first.due("the one at 0 is refused", -20, p -> p.read(0, 0, 0, 2));
        first.isNoticed("the one behind it alone", 1, p -> p.read(0, 0, 4, 1));
    }

    /** Two that would be read of SHEET 0 into other PLACES, with what is to be there. */
    private static PencilForms readable(int one, int other) {
        PencilForms p = Refusals.rich();
        int[] cells = {0, 0, 0, one, 1, 2, 2, other};
        for (int c = 0; c < cells.length; c++) {
            p.lay(0, c, cells[c]);
        }
        return p;
    }
}
