/** The edges that the document names for what changes the tables, and for images (promises 16 to 26). */
public final class BoundaryChangeTest {
    private static final int BAD = -1;
    private static final int STATE = -2;
    private static final int FULL = -3;
    private static final int LOWEST = Integer.MIN_VALUE;
    private static final int HIGHEST = Integer.MAX_VALUE;
    private static final int[] PRIMES = {2, 3, 5, 7};
    private static final int[] FAR = {LOWEST, LOWEST + 1, -1000, 1000, HIGHEST - 1, HIGHEST};

    private static final Check CHECK = new Check("BoundaryChangeTest");

    private static void due(String call, long got, long want) {
        CHECK.due(call, got, want);
    }

    public static void main(String[] args) {
        setTakesPlacesAlone();
        setTakes0ToPrimeLess1();
        openUpToFour();
        openBringsNothingBack();
        cutTakes0ToWhatThereIs();
        cutKeepsTheFirst();
        cutFromEverySize();
        mixTakesLinesThatThereAre();
        mixTakes1ToPrimeLess1();
        mixGoesRoundAtPrime();
        linesOfTallTables();
        timesTakesLinesThatThereAre();
        timesTakes1ToPrimeLess1();
        swapTakesLinesThatThereAre();
        swapOfOneWithItself();
        scrambleTakes0To100();
        scrambleOneStepAtATime();
        scrambleGoesRoundAtTheEndOfInt();
        scrambleOfNoneAndOfOne();
        scrambleCountsWhatWasDone();
        turnTakes0To2();
        turnOfEverySize();
        turnGoesRoundAt0();
        keepTakes0And1();
        anImageOfNothingIsOne();
        imagesStandForThemselves();
        backBringsPrimeToo();
        textAndImages();
        alikeTellsEachPartApart();
        alikeDoesNotTellApart();
        alikeWithASmallerPrime();
        refusedCallsChangeNothing();
        refusedWhenFullOrEmpty();
        CHECK.finish();
    }

    // ---- promise 16

    private static void setTakesPlacesAlone() {
        for (int m = 0; m <= 4; m++) {
            for (int n = 0; n <= 4; n++) {
                PencilForms p = Check.sized(3, m, n);
                for (int t = -1; t <= 2; t++) {
                    for (int i = -1; i <= 4; i++) {
                        for (int j = -1; j <= 4; j++) {
                            boolean place = t >= 0 && t <= 1 && i >= 0 && i < m && j >= 0 && j < n;
                            due("set(" + t + ", " + i + ", " + j + ", 2) of " + m + n, p.set(t, i, j, 2), place ? 0 : BAD);
                        }
                    }
                }
                due("all places have come, no other", p.count(1), 2 * m * n);
            }
        }
    }

    private static void setTakes0ToPrimeLess1() {
        for (int prime : PRIMES) {
            PencilForms p = Check.sized(prime, 4, 4);
            int was = 0;
            for (int v = -2; v <= 9; v++) {
                boolean fits = v >= 0 && v < prime;
                due("set(1, 3, 3, " + v + ") modulo " + prime, p.set(1, 3, 3, v), fits ? was : BAD);
                was = fits ? v : was;
                due("what is there", p.cell(1, 3, 3), was);
            }
            for (int v : FAR) {
                due("set(0, 0, 0, " + v + ")", p.set(0, 0, 0, v), BAD);
            }
            due("set to 0 again", p.set(1, 3, 3, 0), prime - 1);
        }
    }

    // ---- promises 17 and 18

    private static void openUpToFour() {
        for (int what = 0; what < 2; what++) {
            PencilForms p = new PencilForms();
            for (int many = 1; many <= 4; many++) {
                due("open(" + what + ")", p.open(what), many);
            }
            due("the fifth", p.open(what), FULL);
            due("the fifth again", p.open(what), FULL);
            due("there are four", p.rule(what), 4);
            due("none of the others", p.rule(1 - what), 0);
            due("the others have room", p.open(1 - what), 1);
            p.cut(what == 0 ? 3 : 1, what == 0 ? 1 : 3);
            due("behind cut there is room", p.open(what), 4);
            due("and no more", p.open(what), FULL);
        }
        PencilForms full = Check.sized(7, 4, 4);
        for (int what : new int[] {-1, 2, LOWEST, HIGHEST}) {
            due("open(" + what + ") of nothing", new PencilForms().open(what), BAD);
            due("BAD comes ahead of FULL: open(" + what + ")", full.open(what), BAD);
        }
    }

    private static void openBringsNothingBack() {
        PencilForms p = Check.filled(5, "1234/4321/2222/3333", "4444/1111/3214/2341");
        p.cut(2, 2);
        p.open(0);
        p.open(1);
        CHECK.tables("a row and a column of 0", p, "120/430/000", "440/110/000");
        p.cut(0, 0);
        for (int n = 0; n < 4; n++) {
            p.open(1);
            p.open(0);
        }
        due("all is 0", p.count(1), 0);
        p = Check.filled(5, "12", "34");
        p.open(0);
        p.set(0, 1, 0, 4);
        p.turn(1);
        p.open(1);
        p.open(0);
        CHECK.tables("flipped, then opened", p, "140/200/000", "300/400/000");
        p = Check.told("col 3;");
        Check.type(p, "inf 1;");
        p.text();
        p.open(0);
        p.open(1);
        CHECK.tables("told anew, then opened", p, "10/00", "00/00");
        p = Check.filled(3, "1", "2");
        p.keep(0);
        p.open(0);
        p.open(1);
        p.set(1, 1, 1, 2);
        p.back(0);
        p.open(1);
        p.open(0);
        CHECK.tables("brought back, then opened", p, "10/00", "20/00");
    }

    private static void cutTakes0ToWhatThereIs() {
        for (int m = 0; m <= 4; m++) {
            for (int n = 0; n <= 4; n++) {
                for (int toM = -1; toM <= 5; toM++) {
                    for (int toN = -1; toN <= 5; toN++) {
                        PencilForms p = Check.sized(7, m, n);
                        boolean fits = toM >= 0 && toM <= m && toN >= 0 && toN <= n;
                        due("cut(" + toM + ", " + toN + ") of " + m + n, p.cut(toM, toN), fits ? 10 * m + n : BAD);
                        due("ROWS", p.rule(0), fits ? toM : m);
                        due("COLUMNS", p.rule(1), fits ? toN : n);
                    }
                }
            }
        }
        for (int far : FAR) {
            due("cut(" + far + ", 0)", Check.sized(7, 4, 4).cut(far, 0), BAD);
            due("cut(0, " + far + ")", Check.sized(7, 4, 4).cut(0, far), BAD);
        }
    }

    private static void cutKeepsTheFirst() {
        PencilForms p = Check.filled(7, "123/456/012", "654/321/543");
        due("cut to what there is", p.cut(3, 3), 33);
        CHECK.tables("nothing is gone", p, "123/456/012", "654/321/543");
        p.cut(3, 2);
        CHECK.tables("the last column is gone", p, "12/45/01", "65/32/54");
        p.cut(1, 2);
        CHECK.tables("the first row is left", p, "12", "65");
        p.cut(1, 0);
        due("no COLUMNS, a ROW", p.cut(0, 0), 10);
    }

    /** From every size to every smaller one: the first ones stay, and what was cut is 0 when opened. */
    private static void cutFromEverySize() {
        for (int m = 0; m <= 4; m++) {
            for (int n = 0; n <= 4; n++) {
                for (int to = 0; to < (m + 1) * (n + 1); to++) {
                    cutAndOpen(m, n, to / (n + 1), to % (n + 1));
                }
            }
        }
    }

    private static void cutAndOpen(int m, int n, int toM, int toN) {
        PencilForms p = Check.sized(7, m, n);
        for (int place = 0; place < m * n; place++) {
            p.set(0, place / n, place % n, 1 + place % 6);
            p.set(1, place / n, place % n, 6 - place % 6);
        }
        p.cut(toM, toN);
        while (p.open(0) > 0) {
            due("nothing of a row", p.count(1), 2 * toM * toN);
        }
        while (p.open(1) > 0) {
            due("nothing of a column", p.count(1), 2 * toM * toN);
        }
        for (int i = 0; i < toM; i++) {
            for (int j = 0; j < toN; j++) {
                int place = i * n + j;
                due("A, cut from " + m + n + " to " + toM + toN, p.cell(0, i, j), 1 + place % 6);
                due("B, cut from " + m + n + " to " + toM + toN, p.cell(1, i, j), 6 - place % 6);
            }
        }
    }

    // ---- promises 19 to 21

    private static PencilForms marked() {
        return Check.filled(5, "123/004", "340/102");
    }

    private static boolean isLine(int what, int i) {
        return what == 0 && i >= 0 && i < 2 || what == 1 && i >= 0 && i < 3;
    }

    private static void mixTakesLinesThatThereAre() {
        for (int what = -1; what <= 2; what++) {
            for (int i = -1; i <= 4; i++) {
                for (int j = -1; j <= 4; j++) {
                    boolean fits = isLine(what, i) && isLine(what, j) && i != j;
                    due("mix(" + what + ", " + i + ", " + j + ", 1)", marked().mix(what, i, j, 1), fits ? 1 : BAD);
                }
            }
        }
        for (int far : FAR) {
            due("mix(" + far + ", 0, 1, 1)", marked().mix(far, 0, 1, 1), BAD);
            due("mix(0, " + far + ", 1, 1)", marked().mix(0, far, 1, 1), BAD);
            due("mix(1, 0, " + far + ", 1)", marked().mix(1, 0, far, 1), BAD);
        }
        PencilForms p = marked();
        due("the last row to the first", p.mix(0, 0, 1, 1), 1);
        CHECK.tables("row 1 to row 0", p, "122/004", "442/102");
        due("the last column to the first", p.mix(1, 0, 2, 1), 1);
        CHECK.tables("column 2 to column 0", p, "322/404", "142/302");
        p = Check.sized(3, 2, 0);
        due("rows of no COLUMNS", p.mix(0, 1, 0, 2), 1);
        due("columns that are not there", p.mix(1, 1, 0, 2), BAD);
    }

    private static void mixTakes1ToPrimeLess1() {
        for (int prime : PRIMES) {
            for (int c = -2; c <= 9; c++) {
                PencilForms p = Check.filled(prime, "11/11", "01/10");
                boolean fits = c >= 1 && c < prime;
                due("mix(0, 1, 0, " + c + ") modulo " + prime, p.mix(0, 1, 0, c), fits ? 1 : BAD);
                due("what is there", p.cell(0, 1, 1), fits ? (1 + c) % prime : 1);
            }
            for (int c : FAR) {
                due("mix(1, 0, 1, " + c + ")", Check.sized(prime, 2, 2).mix(1, 0, 1, c), BAD);
            }
        }
    }

    private static void mixGoesRoundAtPrime() {
        PencilForms p = Check.filled(7, "66/66", "65/43");
        p.mix(0, 0, 1, 6);
        CHECK.tables("6 and 6 times 6 is 42", p, "00/66", "22/43");
        p.mix(1, 0, 1, 1);
        CHECK.tables("6 and 6 is 12", p, "00/56", "42/03");
        p = Check.filled(2, "11/11", "10/01");
        p.mix(0, 0, 1, 1);
        CHECK.tables("1 and 1 is 0 modulo 2", p, "00/11", "11/01");
    }

    /** More ROWS than COLUMNS: every one of them is reached. */
    private static void linesOfTallTables() {
        PencilForms p = Check.filled(5, "12/34/01/20", "11/22/33/44");
        p.mix(1, 0, 1, 2);
        CHECK.tables("mix of columns", p, "02/14/21/20", "31/12/43/24");
        p.times(1, 1, 3);
        CHECK.tables("times of a column", p, "01/12/23/20", "33/11/44/22");
        p.swap(1, 0, 1);
        CHECK.tables("swap of columns", p, "10/21/32/02", "33/11/44/22");
        p.mix(0, 3, 0, 4);
        CHECK.tables("mix of rows", p, "10/21/32/42", "33/11/44/44");
        p.times(0, 3, 2);
        CHECK.tables("times of a row", p, "10/21/32/34", "33/11/44/33");
        p.swap(0, 0, 3);
        CHECK.tables("swap of rows", p, "34/21/32/10", "33/11/44/33");
    }

    private static void timesTakesLinesThatThereAre() {
        for (int what = -1; what <= 2; what++) {
            for (int i = -1; i <= 4; i++) {
                due("times(" + what + ", " + i + ", 2)", marked().times(what, i, 2), isLine(what, i) ? 1 : BAD);
            }
        }
        for (int far : FAR) {
            due("times(" + far + ", 0, 1)", marked().times(far, 0, 1), BAD);
            due("times(0, " + far + ", 1)", marked().times(0, far, 1), BAD);
        }
        PencilForms p = marked();
        p.times(0, 1, 4);
        CHECK.tables("the last row, gone round", p, "123/001", "340/403");
        p.times(1, 2, 3);
        CHECK.tables("the last column, gone round", p, "124/003", "340/404");
    }

    private static void timesTakes1ToPrimeLess1() {
        for (int prime : PRIMES) {
            for (int c = -2; c <= 9; c++) {
                PencilForms p = Check.filled(prime, "11/11", "01/10");
                boolean fits = c >= 1 && c < prime;
                due("times(1, 1, " + c + ") modulo " + prime, p.times(1, 1, c), fits ? 1 : BAD);
                due("what is there", p.cell(1, 0, 1), fits ? c : 1);
            }
            for (int c : FAR) {
                due("times(0, 0, " + c + ")", Check.sized(prime, 1, 1).times(0, 0, c), BAD);
            }
        }
    }

    private static void swapTakesLinesThatThereAre() {
        for (int what = -1; what <= 2; what++) {
            for (int i = -1; i <= 4; i++) {
                for (int j = -1; j <= 4; j++) {
                    boolean fits = isLine(what, i) && isLine(what, j);
                    due("swap(" + what + ", " + i + ", " + j + ")", marked().swap(what, i, j), fits ? 1 : BAD);
                }
            }
        }
        for (int far : FAR) {
            due("swap(" + far + ", 0, 0)", marked().swap(far, 0, 0), BAD);
            due("swap(0, " + far + ", 0)", marked().swap(0, far, 0), BAD);
            due("swap(1, 0, " + far + ")", marked().swap(1, 0, far), BAD);
            due("swap(1, " + far + ", " + far + ")", marked().swap(1, far, far), BAD);
        }
        PencilForms p = marked();
        p.swap(0, 1, 0);
        CHECK.tables("the last row and the first", p, "004/123", "102/340");
        p.swap(1, 0, 2);
        CHECK.tables("the first column and the last", p, "400/321", "201/043");
    }

    private static void swapOfOneWithItself() {
        PencilForms p = marked();
        for (int i = 0; i < 2; i++) {
            due("swap(0, " + i + ", " + i + ")", p.swap(0, i, i), 1);
        }
        for (int i = 0; i < 3; i++) {
            due("swap(1, " + i + ", " + i + ")", p.swap(1, i, i), 1);
        }
        CHECK.tables("nothing is changed", p, "123/004", "340/102");
    }

    // ---- promise 22

    private static PencilForms mixable() {
        return Check.filled(7, "1203/4510/0362/6001", "0100/2030/5016/0402");
    }

    private static void same(String what, PencilForms p, PencilForms q) {
        CHECK.tables(what, p, Check.show(q, 0), Check.show(q, 1));
    }

    private static void scrambleTakes0To100() {
        PencilForms p = mixable();
        due("scramble(1, 0)", p.scramble(1, 0), 0);
        same("not once", p, mixable());
        due("scramble(1, 1)", p.scramble(1, 1), 1);
        for (int n : new int[] {-1, 101, LOWEST, HIGHEST}) {
            p = mixable();
            due("scramble(1, " + n + ")", p.scramble(1, n), BAD);
            due("scramble of nothing, " + n, new PencilForms().scramble(1, n), BAD);
            same("nothing is mixed", p, mixable());
        }
        due("scramble(1, 99)", mixable().scramble(1, 99), byHand(mixable(), 1, 99));
        due("scramble(1, 100)", mixable().scramble(1, 100), byHand(mixable(), 1, 100));
    }

    /** The same by mix() and by long numbers that are cut to 32 bits. */
    private static int byHand(PencilForms p, int seed, int n) {
        long next = seed & 0xFFFFFFFFL;
        int done = 0;
        for (int turn = 0; turn < n; turn++) {
            next = (next * 1103515245L + 12345L) % (1L << 32);
            int got = (int) (next / (1L << 16) % (1L << 15));
            int many = p.rule(got % 2);
            if (many > 0) {
                done += p.mix(got % 2, got / 2 % many, got / 8 % many, got / 32 % p.rule(2)) == 1 ? 1 : 0;
            }
        }
        return done;
    }

    /** Seeds whose one step was reckoned by hand. */
    private static void scrambleOneStepAtATime() {
        PencilForms p = mixable();
        due("seed 0: got 0, i is j", p.scramble(0, 1), 0);
        same("nothing is mixed", p, mixable());
        p = mixable();
        due("seed 1: got 16838", p.scramble(1, 1), 1);
        PencilForms q = mixable();
        q.mix(0, 3, 0, 1);
        same("mix(0, 3, 0, 1)", p, q);
        p = mixable();
        due("seed 2: got 908, c is 0", p.scramble(2, 1), 0);
        same("nothing is mixed", p, mixable());
        p = mixable();
        due("seed 3: got 17747, bit 31 is not of it", p.scramble(3, 1), 1);
        q = mixable();
        q.mix(1, 1, 2, 1);
        same("mix(1, 1, 2, 1)", p, q);
        p = mixable();
        due("seed 5: got 18655, i is j", p.scramble(5, 1), 0);
        p = mixable();
        due("seed 7: got 19564", p.scramble(7, 1), 1);
        q = mixable();
        q.mix(0, 2, 1, 2);
        same("mix(0, 2, 1, 2)", p, q);
    }

    private static void scrambleGoesRoundAtTheEndOfInt() {
        int[] seeds = {0, 1, -1, 2, -2, 12345, -12345, 1 << 16, 1 << 30, HIGHEST, HIGHEST - 1, LOWEST, LOWEST + 1, 0x41C64E6D};
        for (int seed : seeds) {
            for (int n : new int[] {1, 2, 7, 50, 99, 100}) {
                PencilForms p = mixable();
                PencilForms q = mixable();
                due("scramble(" + seed + ", " + n + ")", p.scramble(seed, n), byHand(q, seed, n));
                same("mixed by " + seed + ", " + n, p, q);
            }
        }
    }

    private static void scrambleOfNoneAndOfOne() {
        for (int seed : new int[] {1, 7, -9, HIGHEST}) {
            due("of nothing", new PencilForms().scramble(seed, 100), 0);
            due("one row", Check.sized(7, 1, 0).scramble(seed, 100), 0);
            due("one column", Check.sized(7, 0, 1).scramble(seed, 100), 0);
            due("one row, one column", Check.sized(7, 1, 1).scramble(seed, 100), 0);
            for (int m = 0; m <= 4; m++) {
                for (int n = 0; n <= 4; n++) {
                    due("of " + m + n, Check.sized(3, m, n).scramble(seed, 100), byHand(Check.sized(3, m, n), seed, 100));
                }
            }
        }
        CHECK.that("rows alone are mixed, if there are no COLUMNS", Check.sized(7, 4, 0).scramble(1, 100) > 0);
        CHECK.that("columns alone are mixed, if there are no ROWS", Check.sized(7, 0, 4).scramble(1, 100) > 0);
    }

    private static void scrambleCountsWhatWasDone() {
        for (int prime : PRIMES) {
            for (int n = 0; n <= 100; n += 5) {
                int done = byHand(Check.sized(prime, 4, 3), n, n);
                due("scramble(" + n + ", " + n + ") modulo " + prime, Check.sized(prime, 4, 3).scramble(n, n), done);
                CHECK.that("not more than " + n, done <= n);
            }
        }
    }

    // ---- promise 23

    private static void turnTakes0To2() {
        for (int what = 0; what <= 2; what++) {
            due("turn(" + what + ")", marked().turn(what), what == 1 ? 32 : 23);
        }
        for (int what : new int[] {-1, 3, LOWEST, HIGHEST}) {
            PencilForms p = marked();
            due("turn(" + what + ")", p.turn(what), BAD);
            CHECK.tables("nothing is turned", p, "123/004", "340/102");
        }
    }

    private static void turnOfEverySize() {
        for (int m = 0; m <= 4; m++) {
            for (int n = 0; n <= 4; n++) {
                PencilForms p = Check.sized(7, m, n);
                for (int place = 0; place < m * n; place++) {
                    p.set(0, place / n, place % n, place % 7);
                    p.set(1, place / n, place % n, place * place % 7);
                }
                due("turn(0) of " + m + n, p.turn(0), 10 * m + n);
                due("turn(1) of " + m + n, p.turn(1), 10 * n + m);
                for (int place = 0; place < m * n; place++) {
                    due("A and B in each other's place, flipped", p.cell(1, place % n, place / n), place % 7);
                    due("A and B in each other's place, flipped", p.cell(0, place % n, place / n), place * place % 7);
                }
                due("turn(2) of " + n + m, p.turn(2), 10 * n + m);
                due("turn(1) again", p.turn(1), 10 * m + n);
            }
        }
    }

    private static void turnGoesRoundAt0() {
        for (int prime : PRIMES) {
            int last = prime - 1;
            PencilForms p = Check.filled(prime, "00" + last + last, "0" + last + "0" + last);
            p.turn(2);
            CHECK.tables("A less B modulo " + prime, p, "01" + last + "0", "0" + last + "0" + last);
            for (int n = 1; n < prime; n++) {
                p.turn(2);
            }
            CHECK.tables("so often as PRIME tells it is what it was", p, "00" + last + last, "0" + last + "0" + last);
        }
    }

    // ---- promises 24 to 26

    private static void keepTakes0And1() {
        for (int k : new int[] {-1, 2, LOWEST, HIGHEST}) {
            due("keep(" + k + ")", new PencilForms().keep(k), BAD);
            due("BAD comes ahead of STATE: back(" + k + ")", new PencilForms().back(k), BAD);
            due("BAD comes ahead of STATE: alike(" + k + ")", new PencilForms().alike(k), BAD);
            due("with images: back(" + k + ")", Refusals.full().back(k), BAD);
            due("with images: alike(" + k + ")", Refusals.full().alike(k), BAD);
        }
        for (int k = 0; k < 2; k++) {
            PencilForms p = new PencilForms();
            due("back(" + k + "), none is kept", p.back(k), STATE);
            due("alike(" + k + "), none is kept", p.alike(k), STATE);
            due("keep(" + k + ")", p.keep(k), 0);
            due("the other is none", p.back(1 - k), STATE);
            due("the other is none", p.alike(1 - k), STATE);
            due("keep(" + k + ") again", p.keep(k), 1);
            due("one IMAGE", p.count(0), 1);
            due("keep(" + (1 - k) + ")", p.keep(1 - k), 0);
            due("two IMAGES", p.count(0), 2);
        }
    }

    private static void anImageOfNothingIsOne() {
        PencilForms p = new PencilForms();
        due("keep(1) of nothing", p.keep(1), 0);
        due("alike(1)", p.alike(1), 1);
        p.open(0);
        p.open(1);
        due("alike(1), now not", p.alike(1), 0);
        due("back(1) is nothing", p.back(1), 0);
        due("no ROWS", p.rule(0), 0);
        due("back(1) again", p.back(1), 0);
    }

    private static void imagesStandForThemselves() {
        PencilForms p = Check.filled(3, "12", "21");
        p.keep(0);
        p.set(0, 0, 0, 0);
        p.keep(1);
        p.times(0, 0, 2);
        p.turn(1);
        due("back(0)", p.back(0), 12);
        CHECK.tables("IMAGE 0", p, "12", "21");
        p.mix(1, 0, 1, 1);
        p.cut(0, 1);
        due("back(1)", p.back(1), 12);
        CHECK.tables("IMAGE 1", p, "02", "21");
        p.set(1, 0, 1, 0);
        due("back(1) again", p.back(1), 12);
        CHECK.tables("IMAGE 1 again", p, "02", "21");
        due("IMAGES stay when brought back", p.count(0), 2);
        p.cut(1, 1);
        due("keep(0) in place of what it was", p.keep(0), 1);
        p.open(1);
        due("back(0) is the new one", p.back(0), 11);
        CHECK.tables("the new IMAGE 0", p, "0", "2");
        due("the other stays", p.back(1), 12);
    }

    private static void backBringsPrimeToo() {
        for (int prime : PRIMES) {
            PencilForms p = Check.told("prime " + prime + ";at 1 4;");
            p.keep(1);
            p.cut(0, 0);
            due("back(1)", p.back(1), 44);
            due("PRIME", p.rule(2), prime);
            due("length", p.length(1, 0), 4);
        }
    }

    private static void textAndImages() {
        PencilForms p = Check.told("inf 2;");
        p.keep(0);
        p.keep(1);
        Check.type(p, "inf 5;");
        p.text();
        due("behind a FAULT there are both", p.count(0), 2);
        due("IMAGE 0 is alike", p.alike(0), 1);
        p.text();
        due("behind an empty text there is none", p.count(0), 0);
        due("back(0)", p.back(0), STATE);
        due("alike(1)", p.alike(1), STATE);
        due("keep(1) anew", p.keep(1), 0);
        due("back(0) still", p.back(0), STATE);
    }

    /** Two lists of blocks of one size: the first one mixed and kept, the other one set place by place. */
    private static int alike(String one, String other) {
        PencilForms p = Check.told(one);
        p.scramble(11, 60);
        p.keep(0);
        PencilForms q = Check.told(other);
        q.scramble(12, 60);
        p.cut(0, 0);
        for (int i = 0; i < q.rule(0); i++) {
            p.open(0);
        }
        for (int j = 0; j < q.rule(1); j++) {
            p.open(1);
        }
        for (int t = 0; t < 2; t++) {
            for (int i = 0; i < q.rule(0); i++) {
                for (int j = 0; j < q.rule(1); j++) {
                    p.set(t, i, j, q.cell(t, i, j));
                }
            }
        }
        return p.alike(0);
    }

    private static void alikeTellsEachPartApart() {
        String[] all = {"", "row 0;", "col 0;", "row 0;col 0;", "inf 1;", "at 0 1;", "at 6 1;", "at 0 2;", "at 0 1;at 0 1;", "inf 2;", "inf 1;inf 1;", "at 6 2;",
            "at 6 1;at 6 1;", "at 0 1;at 6 1;", "inf 3;at 1 1;", "inf 1;at 1 3;", "inf 4;", "inf 3;inf 1;", "inf 2;inf 2;", "inf 2;inf 1;inf 1;",
            "at 6 4;", "at 6 3;at 6 1;", "at 6 2;at 6 2;", "at 6 2;at 6 1;at 6 1;", "at 5 2;at 6 2;", "at 5 3;at 6 1;", "at 5 1;at 6 3;",
            "col 3;", "col 2;inf 1;", "col 2;at 0 1;", "col 1;row 0;at 0 1;col 0;", "col 0;col 2;", "col 1;col 1;", "row 0;row 2;",
            "row 1;row 1;", "row 3;", "row 2;at 3 1;", "col 0;row 3;", "col 1;row 2;", "col 2;row 1;", "col 3;row 0;"};
        for (String one : all) {
            for (String other : all) {
                due("\"" + one + "\" alike \"" + other + "\"", alike(one, other), one.equals(other) ? 1 : 0);
            }
        }
    }

    private static void alikeDoesNotTellApart() {
        due("the order of blocks", alike("at 3 1;inf 2;col 0;", "col 0;inf 2;at 3 1;"), 1);
        due("the order of lengths at one x", alike("at 3 1;at 3 2;", "at 3 2;at 3 1;"), 1);
        PencilForms p = Check.filled(2, "0001/1001/0100/0010", "1000/0100/0010/0001");
        p.keep(0);
        p.set(0, 1, 3, 0);
        p.set(0, 2, 3, 0);
        p.set(0, 3, 3, 1);
        due("REST of another polynomial", p.rule(7), 4);
        due("REST is not asked for", p.alike(0), 1);
        p = Check.filled(3, "02/10", "10/01");
        p.keep(0);
        p.cut(0, 0);
        due("but ROWS and COLUMNS are", p.alike(0), 0);
        p.keep(1);
        p.back(0);
        due("on each side", p.alike(1), 0);
    }

    /** With a smaller PRIME there are fewer x: nothing of those that were asked for before counts. */
    private static void alikeWithASmallerPrime() {
        PencilForms p = Check.told("at 5 2;inf 2;");
        p.keep(0);
        p.cut(0, 0);
        due("not alike modulo 7", p.alike(0), 0);
        Check.type(p, "prime 2;inf 1;");
        due("another text", p.text(), 2);
        p.keep(0);
        due("alike modulo 2", p.alike(0), 1);
        p.set(1, 0, 0, 1);
        due("not alike modulo 2", p.alike(0), 0);
    }

    // ---- what is refused

    private static void refusedCallsChangeNothing() {
        Refusals rich = new Refusals(CHECK, Refusals::rich, 10);
        rich.isNoticed("set(0, 2, 2, 3)", 4, p -> p.set(0, 2, 2, 3));
        rich.isNoticed("open(0)", 4, p -> p.open(0));
        rich.isNoticed("cut(3, 2)", 33, p -> p.cut(3, 2));
        rich.isNoticed("mix(0, 0, 1, 1)", 1, p -> p.mix(0, 0, 1, 1));
        rich.isNoticed("times(1, 2, 4)", 1, p -> p.times(1, 2, 4));
        rich.isNoticed("swap(0, 0, 2)", 1, p -> p.swap(0, 0, 2));
        rich.isNoticed("scramble(1, 50)", rich().scramble(1, 50), p -> p.scramble(1, 50));
        rich.isNoticed("turn(0)", 33, p -> p.turn(0));
        rich.isNoticed("keep(0)", 1, p -> p.keep(0));
        rich.isNoticed("keep(1)", 0, p -> p.keep(1));
        rich.isNoticed("back(0)", 32, p -> p.back(0));
        for (int no : new int[] {-1, 2}) {
            rich.due("set(" + no + ", 0, 0, 1)", BAD, p -> p.set(no, 0, 0, 1));
            rich.due("open(" + no + ")", BAD, p -> p.open(no));
            rich.due("mix(" + no + ", 0, 1, 1)", BAD, p -> p.mix(no, 0, 1, 1));
            rich.due("times(" + no + ", 0, 2)", BAD, p -> p.times(no, 0, 2));
            rich.due("swap(" + no + ", 0, 1)", BAD, p -> p.swap(no, 0, 1));
            rich.due("keep(" + no + ")", BAD, p -> p.keep(no));
            rich.due("back(" + no + ")", BAD, p -> p.back(no));
            rich.due("alike(" + no + ")", BAD, p -> p.alike(no));
        }
        for (int no : new int[] {-1, 3}) {
            rich.due("set(1, " + no + ", 0, 1)", BAD, p -> p.set(1, no, 0, 1));
            rich.due("set(1, 0, " + no + ", 1)", BAD, p -> p.set(1, 0, no, 1));
            rich.due("mix(0, " + no + ", 1, 1)", BAD, p -> p.mix(0, no, 1, 1));
            rich.due("mix(1, 0, " + no + ", 1)", BAD, p -> p.mix(1, 0, no, 1));
            rich.due("times(1, " + no + ", 2)", BAD, p -> p.times(1, no, 2));
            rich.due("swap(0, " + no + ", 0)", BAD, p -> p.swap(0, no, 0));
            rich.due("swap(1, 0, " + no + ")", BAD, p -> p.swap(1, 0, no));
            rich.due("turn(" + no + ")", BAD, p -> p.turn(no));
        }
        for (int no : new int[] {-1, 5}) {
            rich.due("set(0, 0, 0, " + no + ")", BAD, p -> p.set(0, 0, 0, no));
        }
        for (int no : new int[] {-1, 4}) {
            rich.due("cut(" + no + ", 0)", BAD, p -> p.cut(no, 0));
            rich.due("cut(0, " + no + ")", BAD, p -> p.cut(0, no));
        }
        for (int no : new int[] {-1, 0, 5}) {
            rich.due("mix(0, 0, 1, " + no + ")", BAD, p -> p.mix(0, 0, 1, no));
            rich.due("times(0, 0, " + no + ")", BAD, p -> p.times(0, 0, no));
        }
        for (int no : new int[] {-1, 101}) {
            rich.due("scramble(1, " + no + ")", BAD, p -> p.scramble(1, no));
        }
        rich.due("mix(0, 1, 1, 1)", BAD, p -> p.mix(0, 1, 1, 1));
        rich.due("mix(1, 2, 2, 4)", BAD, p -> p.mix(1, 2, 2, 4));
        rich.due("back(1), none is kept", STATE, p -> p.back(1));
        rich.due("alike(1), none is kept", STATE, p -> p.alike(1));
        rich.due("scramble(1, 0) mixes nothing", 0, p -> p.scramble(1, 0));
    }

    private static void refusedWhenFullOrEmpty() {
        Refusals full = new Refusals(CHECK, Refusals::full, 2);
        full.due("open(0) when full", FULL, p -> p.open(0));
        full.due("open(1) when full", FULL, p -> p.open(1));
        full.due("open(2) when full", BAD, p -> p.open(2));
        full.due("cut(5, 4) when full", BAD, p -> p.cut(5, 4));
        full.due("cut(4, 5) when full", BAD, p -> p.cut(4, 5));
        full.due("set(0, 4, 0, 1) when full", BAD, p -> p.set(0, 4, 0, 1));
        full.due("set(0, 0, 4, 1) when full", BAD, p -> p.set(0, 0, 4, 1));
        Refusals none = new Refusals(CHECK, PencilForms::new, 2);
        none.due("set(0, 0, 0, 0) of nothing", BAD, p -> p.set(0, 0, 0, 0));
        none.due("cut(1, 0) of nothing", BAD, p -> p.cut(1, 0));
        none.due("swap(0, 0, 0) of nothing", BAD, p -> p.swap(0, 0, 0));
        none.due("times(0, 0, 1) of nothing", BAD, p -> p.times(0, 0, 1));
        none.due("back(0) of nothing", STATE, p -> p.back(0));
        none.due("alike(1) of nothing", STATE, p -> p.alike(1));
        none.due("scramble(7, 100) of nothing", 0, p -> p.scramble(7, 100));
    }

    private static PencilForms rich() {
        return Refusals.rich();
    }
}
