/** Each promise of the document by hand: ordinary inputs, the edges that it names, wrong inputs. */
public final class PromiseTest {
    private static final int BAD = -1;
    private static final int STATE = -2;
    private static final int FULL = -3;
    private static final int NONE = -4;
    private static final int LOWEST = Integer.MIN_VALUE;
    private static final int HIGHEST = Integer.MAX_VALUE;

    private static final Check CHECK = new Check("PromiseTest");

    private static void due(String call, long got, long want) {
        CHECK.due(call, got, want);
    }

    private static PencilForms told(String text) {
        return Check.told(text);
    }

    private static PencilForms filled(int prime, String a, String b) {
        return Check.filled(prime, a, b);
    }

    private static void tables(String what, PencilForms p, String a, String b) {
        CHECK.tables(what, p, a, b);
    }

    public static void main(String[] args) {
        newObject();
        feedAndEnd();
        textFaults();
        textTellsAll();
        ruleAndCell();
        rankAndNulls();
        indices();
        chainsAndLengths();
        stepsAndGo();
        setOpenCut();
        mixTimesSwap();
        scramble();
        turn();
        images();
        alike();
        sheetsAndLay();
        read();
        readFaults();
        count();
        CHECK.finish();
    }

    private static void newObject() {
        PencilForms p = new PencilForms();
        int[] rules = {0, 0, 7, 0, 0, 0, 0, 0};
        for (int w = 0; w < rules.length; w++) {
            due("new: rule(" + w + ")", p.rule(w), rules[w]);
        }
        int[] counts = {0, 0, 0, NONE, 0, 0};
        for (int w = 0; w < counts.length; w++) {
            due("new: count(" + w + ")", p.count(w), counts[w]);
        }
        for (int k = 0; k < 4; k++) {
            due("new: lay(" + k + ", 0, 0)", p.lay(k, 0, 0), -11);
        }
        due("new: fault()", p.fault(), 0);
        due("new: torn()", p.torn(), 0);
        due("new: cell(0, 0, 0)", p.cell(0, 0, 0), BAD);
        due("new: rank(0)", p.rank(0), 0);
        due("new: rank(7)", p.rank(7), 0);
        due("new: nulls(4)", p.nulls(4), 0);
        due("new: col(0)", p.col(0), NONE);
        due("new: row(0)", p.row(0), NONE);
        due("new: length(0, 0)", p.length(0, 0), NONE);
        due("new: steps(4, 0)", p.steps(4, 0), 0);
        due("new: go(0, 4)", p.go(0, 4), 1);
        due("new: go(1, 0)", p.go(1, 0), BAD);
        due("new: back(0)", p.back(0), STATE);
        due("new: alike(1)", p.alike(1), STATE);
        due("new: turn(1)", p.turn(1), 0);
        due("new: scramble(1, 100)", p.scramble(1, 100), 0);
        due("new: text()", p.text(), 0);
    }

    private static void feedAndEnd() {
        PencilForms p = new PencilForms();
        due("feed(-1)", p.feed(-1), BAD);
        due("feed(128)", p.feed(128), BAD);
        due("feed(lowest)", p.feed(LOWEST), BAD);
        due("feed(0)", p.feed(0), 1);
        due("feed(127)", p.feed(127), 2);
        due("end(3)", p.end(3), BAD);
        due("end(-1)", p.end(-1), BAD);
        due("end(2)", p.end(2), 2);
        due("end(1)", p.end(1), 2);
        due("count(2)", p.count(2), 1);
        due("end(0)", p.end(0), 1);
        due("end(0) again", p.end(0), 0);
        for (int i = 1; i <= 160; i++) {
            due("feed(32), the " + i + "th", p.feed(32), i);
        }
        due("feed(32) when full", p.feed(32), FULL);
        due("feed(200) when full", p.feed(200), BAD);
        due("count(2) when full", p.count(2), 160);
        due("end(161)", p.end(161), BAD);
        due("text() of blanks", p.text(), 0);
        due("count(2) behind text()", p.count(2), 0);
        Check.type(p, "col 1;zzz");
        due("end(6)", p.end(6), 9);
        due("text() of what is kept", p.text(), 1);
        due("its COLUMNS", p.rule(1), 2);
    }

    private static void textOf(String text, int answer, int fault) {
        CHECK.text(text, answer, fault);
    }

    private static void textFaults() {
        for (String good : new String[] {"prime 2;", "prime 3;", "prime 5;", "prime 7;", "prime 07;", "prime7;", " prime  7 ; ",
            "col 0;", "col 3;", "row 0;", "row 3;", "inf 1;", "inf 4;", "at 0 1;", "at 6 4;", "at 06 04;"}) {
            textOf(good, 1, 0);
        }
        textOf("", 0, 0);
        textOf("col 1;row 1;", 2, 0);
        textOf("row 3;col 0;", 2, 0);
        textOf("at 2 1;at 1 1;prime 3;", 3, 0);
        textOf("A", -10, 1);
        textOf("col A;", -14, 1);
        textOf("col -1;", -14, 1);
        textOf("col 1;\t", -16, 1);
        textOf("col 1:", -15, 1);
        textOf("prime 100;", -16, 1);
        textOf("prime 007;", -16, 1);
        textOf("123", -10, 1);
        textOf("at 1 2 A", -17, 1);
        textOf("3", -10, 2);
        textOf(";", -10, 2);
        textOf("col 1;;", -16, 2);
        textOf("foo 100;", -10, 2);
        textOf("colx 1;", -10, 2);
        textOf("co 1;", -10, 2);
        textOf("prim 2;", -10, 2);
        for (String other : new String[] {"zol 1;", "zow 1;", "znf 1;", "zt 1 1;", "zrime 2;", "az 1 1;", "coz 1;", "inz 1;", "rol 1;"}) {
            textOf(other, -10, 2);
        }
        textOf("at 1;", -14, 2);
        textOf("col;", -13, 2);
        textOf("inf inf;", -14, 2);
        textOf("prime 3 3;", -18, 2);
        textOf("prime", -15, 2);
        textOf("prime 3", -17, 2);
        textOf("prime 3 ", -18, 2);
        textOf("at 1 2", -16, 2);
        textOf("at", -12, 2);
        for (String none : new String[] {"0", "1", "4", "6", "8", "9", "11", "99"}) {
            textOf("prime " + none + ";", -16, 3);
        }
        textOf("col 5;", -14, 3);
        textOf("row 5;", -14, 3);
        textOf("inf 0;", -14, 3);
        textOf("inf 5;", -14, 3);
        textOf("at 7 1;", -13, 3);
        textOf("at 12;", -13, 3);
        textOf("at 0 0;", -15, 3);
        textOf("at 0 5;", -15, 3);
        textOf("col 5 100", -14, 3);
        textOf("inf 4;col 9;", -20, 3);
        textOf("prime 2;prime 2;", -18, 4);
        textOf("prime 2;col 0;prime", -24, 4);
        textOf("prime 2;prime A", -18, 4);
        textOf("col 4;", -14, 5);
        textOf("row 4;", -14, 5);
        textOf("col 4 A", -14, 5);
        textOf("col 2;inf 2;", -20, 5);
        textOf("inf 4;row 0;", -20, 5);
        textOf("inf 4;col 0;", -20, 5);
        textOf("inf 3;at 1 2;", -21, 5);
        textOf("prime 3;at 3 1;", -25, 6);
        textOf("at 3 1;prime 3;", -25, 6);
        textOf("prime 5;at 5 1; ", -26, 6);
        textOf("prime 2;at 6 1;at 0 1;", -32, 6);
        textOf("prime 2;at 6 1;at 0 9;", -30, 3);
    }

    private static void textTellsAll() {
        PencilForms p = told("prime 5;at 3 2;");
        p.keep(0);
        p.keep(1);
        Check.type(p, "col 9;");
        due("a text with a fault", p.text(), -14);
        due("its fault", p.fault(), 3);
        tables("behind a fault", p, "31/03", "10/01");
        due("PRIME behind a fault", p.rule(2), 5);
        due("IMAGES behind a fault", p.count(0), 2);
        Check.type(p, "row 1;");
        due("a text that is taken", p.text(), 1);
        due("no fault", p.fault(), 0);
        due("IMAGES are gone", p.count(0), 0);
        due("back(0)", p.back(0), STATE);
        due("back(1)", p.back(1), STATE);
        due("PRIME when no line tells it", p.rule(2), 7);
        tables("what was is replaced", p, "1/0", "0/1");
        due("an empty text", p.text(), 0);
        due("tells no ROWS", p.rule(0), 0);
        due("tells no COLUMNS", p.rule(1), 0);
        tables("col 2", told("col 2;"), "100/010", "010/001");
        tables("row 2", told("row 2;"), "10/01/00", "00/10/01");
        tables("inf 3", told("inf 3;"), "100/010/001", "010/001/000");
        tables("at 4 3", told("at 4 3;"), "410/041/004", "100/010/001");
        tables("in order", told("prime 5;col 1;row 1;at 2 1;"), "1000/0010/0000/0002", "0100/0000/0010/0001");
        PencilForms twice = told("prime 3;at 2 1;");
        Check.type(twice, "prime 2;col 1;");
        due("prime again in another text, no X", twice.text(), 2);
        tables("no columns", told("row 0;row 0;"), "/", "/");
        tables("edges", told("col 0;row 0;at 3 2;inf 1;"), "0000/0310/0030/0001", "0000/0100/0010/0000");
        PencilForms old = told("inf 4;");
        Check.type(old, "col 1;");
        old.text();
        old.open(0);
        tables("nothing of the old one is left", old, "10/00", "01/00");
    }

    private static void rules(String text, int... want) {
        PencilForms p = told(text);
        for (int w = 0; w < want.length; w++) {
            due(text + " rule(" + w + ")", p.rule(w), want[w]);
        }
        due("rule(8)", p.rule(8), BAD);
        due("rule(-1)", p.rule(-1), BAD);
    }

    private static void ruleAndCell() {
        rules("prime 3;col 1;inf 1;", 2, 3, 3, 1, 0, 1, 0, 0);
        rules("prime 3;row 1;at 1 1;at 2 1;", 4, 3, 3, 0, 1, 0, 2, 0);
        rules("row 0;row 0;col 0;inf 2;", 4, 3, 7, 1, 2, 2, 0, 0);
        rules("prime 2;inf 1;inf 2;at 1 1;", 4, 4, 2, 0, 0, 3, 1, 0);
        PencilForms rest = filled(3, "02/10", "10/01");
        due("x x and 1 has no x modulo 3: REST", rest.rule(7), 2);
        due("lengths", rest.rule(6), 0);
        rest = filled(5, "04/10", "10/01");
        due("modulo 5 it has two: REST", rest.rule(7), 0);
        due("lengths", rest.rule(6), 2);
        due("at 2", rest.length(2, 0), 1);
        due("at 3", rest.length(3, 0), 1);
        PencilForms p = told("at 4 2;");
        due("cell(0, 0, 0)", p.cell(0, 0, 0), 4);
        due("cell(0, 0, 1)", p.cell(0, 0, 1), 1);
        due("cell(1, 1, 1)", p.cell(1, 1, 1), 1);
        for (int[] none : new int[][] {{2, 0, 0}, {-1, 0, 0}, {0, 2, 0}, {0, -1, 0}, {1, 0, 2}, {1, 0, -1}, {0, HIGHEST, 0}}) {
            due("cell at no PLACE", p.cell(none[0], none[1], none[2]), BAD);
        }
    }

    private static void rankAndNulls() {
        PencilForms p = told("prime 3;at 1 2;inf 1;col 0;");
        int[] ranks = {3, 2, 3, 2};
        for (int x = 0; x < 4; x++) {
            due("rank(" + x + ")", p.rank(x), ranks[x]);
        }
        due("rank(4)", p.rank(4), BAD);
        due("rank(-1)", p.rank(-1), BAD);
        due("rank(7) modulo 3", p.rank(7), BAD);
        p = told("col 0;col 1;row 0;");
        int[] nulls = {1, 3, 5, 7, 9};
        for (int d = 0; d < 5; d++) {
            due("nulls(" + d + ")", p.nulls(d), nulls[d]);
        }
        due("nulls(5)", p.nulls(5), BAD);
        due("nulls(-1)", p.nulls(-1), BAD);
        p = told("col 3;");
        int[] late = {0, 0, 0, 1, 2};
        for (int d = 0; d < 5; d++) {
            due("col 3: nulls(" + d + ")", p.nulls(d), late[d]);
        }
    }

    private static void indices() {
        PencilForms p = told("col 1;row 1;col 0;");
        due("col(0)", p.col(0), 0);
        due("col(1)", p.col(1), 1);
        due("col(2)", p.col(2), NONE);
        due("col(-1)", p.col(-1), BAD);
        due("col(lowest)", p.col(LOWEST), BAD);
        due("col(highest)", p.col(HIGHEST), NONE);
        due("row(0)", p.row(0), 1);
        due("row(1)", p.row(1), NONE);
        due("row(-1)", p.row(-1), BAD);
        due("row(highest)", p.row(HIGHEST), NONE);
        p = told("row 3;");
        due("row 3: row(0)", p.row(0), 3);
        p = told("row 1;row 0;row 0;");
        due("rising: row(0)", p.row(0), 0);
        due("rising: row(1)", p.row(1), 0);
        due("rising: row(2)", p.row(2), 1);
        p = told("col 3;");
        due("col 3: col(0)", p.col(0), 3);
        due("col 3: row(0)", p.row(0), NONE);
    }

    private static void chainsAndLengths() {
        PencilForms p = told("prime 5;at 2 1;at 2 2;col 0;");
        int[] at2 = {0, 3, 5, 6, 7};
        for (int k = 0; k < 5; k++) {
            due("chains(2, " + k + ")", p.chains(2, k), at2[k]);
            due("chains(0, " + k + ")", p.chains(0, k), k);
            due("chains(5, " + k + ")", p.chains(5, k), k);
        }
        due("chains(6, 1)", p.chains(6, 1), BAD);
        due("chains(-1, 1)", p.chains(-1, 1), BAD);
        due("chains(2, 5)", p.chains(2, 5), BAD);
        due("chains(2, -1)", p.chains(2, -1), BAD);
        due("falling: length(2, 0)", p.length(2, 0), 2);
        due("falling: length(2, 1)", p.length(2, 1), 1);
        due("length(2, 2)", p.length(2, 2), NONE);
        due("length(2, highest)", p.length(2, HIGHEST), NONE);
        due("length(0, 0)", p.length(0, 0), NONE);
        due("length(2, -1)", p.length(2, -1), BAD);
        due("length(6, 0)", p.length(6, 0), BAD);
        due("length(-1, 0)", p.length(-1, 0), BAD);
        p = told("prime 2;inf 1;inf 3;");
        due("beyond all: length(2, 0)", p.length(2, 0), 3);
        due("beyond all: length(2, 1)", p.length(2, 1), 1);
        due("beyond all: chains(2, 3)", p.chains(2, 3), 4);
        p = told("at 6 4;");
        due("length(6, 0)", p.length(6, 0), 4);
        due("chains(6, 4)", p.chains(6, 4), 4);
    }

    private static void stepsAndGo() {
        PencilForms p = told("prime 3;at 2 1;inf 2;col 0;");
        int[] all = {4, 5, 6, 7, 8};
        int[] from = {4, 3, 2, 2, 2};
        for (int k = 0; k < 5; k++) {
            due("steps(" + k + ", 0)", p.steps(k, 0), all[k]);
            due("steps(" + k + ", 1)", p.steps(k, 1), from[k]);
        }
        due("steps(5, 0)", p.steps(5, 0), BAD);
        due("steps(-1, 0)", p.steps(-1, 0), BAD);
        due("steps(0, 2)", p.steps(0, 2), BAD);
        due("steps(0, -1)", p.steps(0, -1), BAD);
        due("go(1001, 4)", p.go(1001, 4), 1);
        due("go(10, 0)", p.go(10, 0), 1);
        due("go(10, 1)", p.go(10, 1), 1);
        due("go(10, 2)", p.go(10, 2), 0);
        due("go(100, 0)", p.go(100, 0), 1);
        due("go(100, 1)", p.go(100, 1), 0);
        due("go(2, 4): the last figure is row 0", p.go(2, 4), 1);
        due("go(0, 4)", p.go(0, 4), 1);
        due("go(2222, 0)", p.go(2222, 0), 1);
        due("go(3, 0): a figure that is PRIME", p.go(3, 0), BAD);
        due("go(1300, 0): a figure that is PRIME", p.go(1300, 0), BAD);
        due("go(10000, 0): too many figures", p.go(10000, 0), BAD);
        due("go(-1, 0)", p.go(-1, 0), BAD);
        due("go(lowest, 0)", p.go(LOWEST, 0), BAD);
        due("go(highest, 0)", p.go(HIGHEST, 0), BAD);
        due("go(1, 5)", p.go(1, 5), BAD);
        due("go(1, -1)", p.go(1, -1), BAD);
        p = filled(5, "123/004", "340/102");
        int[] allOf = {3, 4, 5, 6, 7};
        for (int k = 0; k < 5; k++) {
            due("ranks are full: steps(" + k + ", 0)", p.steps(k, 0), allOf[k]);
            due("ranks are full: steps(" + k + ", 1)", p.steps(k, 1), 3);
            due("ranks are full: go(424, " + k + ")", p.go(424, k), 1);
        }
        p = filled(5, "12/24", "31/31");
        due("A v0 is no multiple of (1, 1): go(1, 1)", p.go(1, 1), 0);
        due("A v0 is 0: go(13, 1)", p.go(13, 1), 1);
        due("A v0 is 0: go(13, 4)", p.go(13, 4), 1);
        due("A v0 is (4, 3): go(12, 1)", p.go(12, 1), 0);
        due("steps(1, 1)", p.steps(1, 1), 1);
        p = told("col 0;col 0;");
        due("no ROWS: go(66, 4)", p.go(66, 4), 1);
        due("no ROWS: go(166, 4)", p.go(166, 4), BAD);
        due("no ROWS: steps(4, 0)", p.steps(4, 0), 10);
        due("no ROWS: steps(4, 1)", p.steps(4, 1), 2);
    }

    private static void setOpenCut() {
        PencilForms p = told("prime 5;at 2 2;");
        due("set(0, 0, 1, 4)", p.set(0, 0, 1, 4), 1);
        due("set(0, 0, 1, 0)", p.set(0, 0, 1, 0), 4);
        for (int[] no : new int[][] {{2, 0, 0, 1}, {-1, 0, 0, 1}, {0, 2, 0, 1}, {0, 0, 2, 1}, {0, -1, 0, 1}, {0, 0, -1, 1}, {0, 0, 0, 5}, {0, 0, 0, -1}}) {
            due("set that is refused", p.set(no[0], no[1], no[2], no[3]), BAD);
        }
        tables("set", p, "20/02", "10/01");
        due("open(2)", p.open(2), BAD);
        due("open(-1)", p.open(-1), BAD);
        due("open(0)", p.open(0), 3);
        due("open(1)", p.open(1), 3);
        tables("open", p, "200/020/000", "100/010/000");
        due("open(1) to 4", p.open(1), 4);
        due("open(1) beyond", p.open(1), FULL);
        due("open(2) beyond", p.open(2), BAD);
        due("open(0) to 4", p.open(0), 4);
        due("open(0) beyond", p.open(0), FULL);
        due("cut(5, 4)", p.cut(5, 4), BAD);
        due("cut(4, 5)", p.cut(4, 5), BAD);
        due("cut(-1, 0)", p.cut(-1, 0), BAD);
        due("cut(0, -1)", p.cut(0, -1), BAD);
        due("cut(1, 2)", p.cut(1, 2), 44);
        tables("cut", p, "20", "10");
        p.open(0);
        tables("what was cut is 0 when opened", p, "20/00", "10/00");
        due("cut to the same", p.cut(2, 2), 22);
        due("cut(2, 0)", p.cut(2, 0), 22);
        due("cut(3, 0)", p.cut(3, 0), BAD);
        p.open(1);
        p.open(1);
        tables("columns that were cut are 0", p, "00/00", "00/00");
        due("cut(0, 2)", p.cut(0, 2), 22);
        due("no ROWS", p.rule(0), 0);
        due("COLUMNS stay", p.rule(1), 2);
        due("cut(0, 0)", p.cut(0, 0), 2);
        due("cut of nothing", p.cut(0, 0), 0);
    }

    private static void mixTimesSwap() {
        PencilForms p = filled(5, "123/004", "340/102");
        due("mix rows", p.mix(0, 0, 1, 3), 1);
        tables("mix rows", p, "120/004", "141/102");
        due("mix columns", p.mix(1, 2, 0, 4), 1);
        tables("mix columns", p, "124/004", "140/101");
        due("mix once", p.mix(0, 1, 0, 1), 1);
        tables("mix once", p, "124/123", "140/241");
        due("mix once less", p.mix(0, 1, 0, 4), 1);
        tables("mix once less", p, "124/004", "140/101");
        due("times 1", p.times(1, 0, 1), 1);
        due("mix i is j", p.mix(0, 1, 1, 1), BAD);
        for (int[] no : new int[][] {{2, 0, 1, 1}, {-1, 0, 1, 1}, {0, 0, 2, 1}, {0, 2, 0, 1}, {0, -1, 0, 1}, {0, 0, -1, 1}, {1, 3, 0, 1}, {1, 0, 3, 1},
            {0, 0, 1, 0}, {0, 0, 1, 5}, {0, 0, 1, -1}}) {
            due("mix that is refused", p.mix(no[0], no[1], no[2], no[3]), BAD);
        }
        due("times row", p.times(0, 0, 3), 1);
        tables("times row", p, "312/004", "320/101");
        due("times column", p.times(1, 2, 2), 1);
        tables("times column", p, "314/003", "320/102");
        for (int[] no : new int[][] {{2, 0, 1}, {-1, 0, 1}, {0, 2, 1}, {0, -1, 1}, {1, 3, 1}, {0, 0, 0}, {0, 0, 5}, {0, 0, -4}}) {
            due("times that is refused", p.times(no[0], no[1], no[2]), BAD);
        }
        due("swap rows", p.swap(0, 0, 1), 1);
        tables("swap rows", p, "003/314", "102/320");
        due("swap columns", p.swap(1, 2, 0), 1);
        tables("swap columns", p, "300/413", "201/023");
        due("swap i is j", p.swap(0, 1, 1), 1);
        due("swap a column with itself", p.swap(1, 2, 2), 1);
        for (int[] no : new int[][] {{2, 0, 0}, {-1, 0, 0}, {0, 2, 0}, {0, 0, 2}, {1, 3, 0}, {1, 0, -1}, {0, 2, 2}}) {
            due("swap that is refused", p.swap(no[0], no[1], no[2]), BAD);
        }
        tables("what is refused changes nothing", p, "300/413", "201/023");
    }

    private static void scramble() {
        PencilForms p = told("prime 3;at 1 2;");
        due("scramble(5, 101)", p.scramble(5, 101), BAD);
        due("scramble(5, -1)", p.scramble(5, -1), BAD);
        due("scramble(5, 0)", p.scramble(5, 0), 0);
        tables("nothing is mixed", p, "11/01", "10/01");
        long seed = 7;
        PencilForms q = told("prime 3;at 1 2;");
        int done = 0;
        for (int n = 0; n < 100; n++) {
            seed = (seed * 1103515245L + 12345L) & 0xFFFFFFFFL;
            int got = (int) (seed >> 16 & 32767);
            done += q.mix(got & 1, (got >> 1) % 2, (got >> 3) % 2, (got >> 5) % 3) == 1 ? 1 : 0;
        }
        due("scramble(7, 100)", p.scramble(7, 100), done);
        tables("mixed as by mix()", p, Check.show(q, 0), Check.show(q, 1));
        p = told("row 0;row 0;row 0;");
        due("no COLUMNS: rows alone are mixed", p.scramble(-5, 100) > 0 ? 1 : 0, 1);
        p = told("at 1 1;");
        due("one row, one column", p.scramble(HIGHEST, 100), 0);
    }

    private static void turn() {
        PencilForms p = filled(5, "123/004", "340/102");
        due("turn(3)", p.turn(3), BAD);
        due("turn(-1)", p.turn(-1), BAD);
        due("turn(0)", p.turn(0), 23);
        tables("turn(0)", p, "340/102", "123/004");
        due("turn(1)", p.turn(1), 32);
        tables("turn(1)", p, "31/40/02", "10/20/34");
        due("turn(2)", p.turn(2), 32);
        tables("turn(2)", p, "21/20/23", "10/20/34");
        PencilForms q = told("at 0 2;");
        q.turn(2);
        due("A less B: at 0 goes beneath to 6", q.length(6, 0), 2);
    }

    private static void images() {
        PencilForms p = told("prime 5;at 2 2;");
        due("keep(2)", p.keep(2), BAD);
        due("keep(-1)", p.keep(-1), BAD);
        due("back(2)", p.back(2), BAD);
        due("back(-1)", p.back(-1), BAD);
        due("back(0)", p.back(0), STATE);
        due("alike(0)", p.alike(0), STATE);
        due("alike(2)", p.alike(2), BAD);
        due("keep(0)", p.keep(0), 0);
        due("keep(1)", p.keep(1), 0);
        p.cut(1, 2);
        due("keep(1) again", p.keep(1), 1);
        p.set(0, 0, 0, 4);
        p.open(1);
        due("back(1)", p.back(1), 12);
        tables("back(1)", p, "21", "10");
        due("back(0)", p.back(0), 22);
        tables("back(0)", p, "21/02", "10/01");
        p.set(0, 0, 0, 4);
        due("back(0) again", p.back(0), 22);
        tables("an IMAGE is not changed with what there is", p, "21/02", "10/01");
        due("IMAGES stay", p.count(0), 2);
    }

    private static void alike() {
        PencilForms p = told("prime 3;at 1 2;at 2 1;");
        p.keep(0);
        due("alike itself", p.alike(0), 1);
        p.scramble(99, 100);
        p.swap(0, 0, 2);
        p.times(1, 1, 2);
        due("alike when mixed", p.alike(0), 1);
        p.open(0);
        due("another number of ROWS", p.alike(0), 0);
        p.back(0);
        p.set(0, 0, 1, 0);
        due("at 1 1, at 1 1, at 2 1", p.alike(0), 0);
        p.back(0);
        p.set(0, 0, 0, 2);
        p.set(0, 1, 1, 2);
        p.set(0, 2, 2, 1);
        due("the same lengths at other x", p.alike(0), 0);
        p.back(0);
        p.turn(1);
        due("flipped: the same lengths", p.alike(0), 1);
        p = filled(3, "02/10", "10/01");
        p.keep(0);
        p.cut(0, 0);
        due("nothing is not alike REST alone", p.alike(0), 0);
        p.back(0);
        p.set(0, 0, 0, 2);
        p.set(0, 0, 1, 1);
        due("x x less 2 x less 1 has no x either: REST is not told apart", p.alike(0), 1);
        sameSizeOtherIndices("col 0;col 2;", 2, 4, new int[][] {{0, 0, 0}, {1, 0, 1}, {0, 1, 2}, {1, 1, 3}});
        sameSizeOtherIndices("row 0;row 2;", 4, 2, new int[][] {{0, 0, 0}, {1, 1, 0}, {0, 2, 1}, {1, 3, 1}});
    }

    /** As many indices with the same sum, but others: the places that are 1 tell them twice 1. */
    private static void sameSizeOtherIndices(String text, int m, int n, int[][] ones) {
        PencilForms p = told(text);
        p.keep(1);
        p.scramble(3, 77);
        due(text + " mixed is alike", p.alike(1), 1);
        p.cut(0, 0);
        for (int i = 0; i < m; i++) {
            p.open(0);
        }
        for (int j = 0; j < n; j++) {
            p.open(1);
        }
        for (int[] one : ones) {
            p.set(one[0], one[1], one[2], 1);
        }
        due(text + " with other indices is not alike", p.alike(1), 0);
        p.keep(0);
        due("but alike itself", p.alike(0), 1);
    }

    private static void sheetsAndLay() {
        PencilForms p = new PencilForms();
        due("sheet(4, 0, 1)", p.sheet(4, 0, 1), BAD);
        due("sheet(-1, 0, 1)", p.sheet(-1, 0, 1), BAD);
        due("sheet(0, 3, 1)", p.sheet(0, 3, 1), BAD);
        due("sheet(0, -1, 1)", p.sheet(0, -1, 1), BAD);
        due("sheet(0, 0, 41)", p.sheet(0, 0, 41), BAD);
        due("sheet(0, 0, -1)", p.sheet(0, 0, -1), -14);
        due("sheet(0, 3, -1)", p.sheet(0, 3, -1), BAD);
        due("sheet(4, 0, -1)", p.sheet(4, 0, -1), BAD);
        due("sheet(0, 0, lowest)", p.sheet(0, 0, LOWEST), -14);
        due("still nothing", p.count(3), NONE);
        due("sheet(0, 2, 0)", p.sheet(0, 2, 0), 1);
        due("of no CELLS", p.count(3), 0);
        due("lay(0, 0, 1)", p.lay(0, 0, 1), -12);
        due("sheet(0, 2, 40)", p.sheet(0, 2, 40), 1);
        due("of 40 CELLS", p.count(3), 40);
        due("sheet(0, 1, -1) leaves it", p.sheet(0, 1, -1), -14);
        due("as it was", p.count(3), 40);
        due("lay(0, 39, 1)", p.lay(0, 39, 1), 1);
        due("lay(0, 40, 1)", p.lay(0, 40, 1), -12);
        due("lay(0, -1, 1)", p.lay(0, -1, 1), -12);
        due("lay(1, 0, 1)", p.lay(1, 0, 1), -11);
        due("lay(1, -1, 1)", p.lay(1, -1, 1), -11);
        due("lay(4, 0, 1)", p.lay(4, 0, 1), BAD);
        due("lay(-1, 0, 1)", p.lay(-1, 0, 1), BAD);
    }

    /** Lays four cells from a cell on. */
    private static void layFour(PencilForms p, int k, int f, int... four) {
        for (int c = 0; c < 4; c++) {
            p.lay(k, f + c, four[c]);
        }
    }

    private static void read() {
        int[] highBits = {256, 65536, 0};
        for (int lane = 0; lane < 3; lane++) {
            PencilForms p = told("prime 5;at 2 2;");
            p.sheet(3, lane, 13);
            layFour(p, 3, 1, highBits[lane] + 1, 0, 1, highBits[lane] + 4);
            layFour(p, 3, 5, 0, highBits[lane] + 1, 0, 3);
            layFour(p, 3, 9, 0, 1, 0, 2);
            due("lane " + lane + ": read two", p.read(3, lane, 1, 2), 2);
            tables("read two", p, "21/32", "14/01");
            due("read all, one behind another", p.read(3, lane, 1, 3), 3);
            tables("read all", p, "21/22", "14/01");
            due("torn()", p.torn(), 0);
            due("read none", p.read(3, lane, 0, 0), 0);
        }
        PencilForms p = told("prime 5;at 2 2;");
        p.sheet(0, 0, 4);
        layFour(p, 0, 0, 0, 0, 0, 255);
        due("a byte below 0 is refused by set()", p.read(0, 0, 0, 1), -20);
        p.sheet(0, 1, 4);
        layFour(p, 0, 0, 0, 0, 0, 256);
        due("a short keeps 256, which is refused", p.read(0, 1, 0, 1), -20);
        p.sheet(0, 2, 4);
        layFour(p, 0, 0, 65536, 0, 0, 0);
        due("an int keeps 65536, which is refused", p.read(0, 2, 0, 1), -20);
        p.sheet(0, 0, 4);
        due("a new SHEET has 0 in all CELLS", p.read(0, 0, 0, 1), 1);
        tables("A at (0, 0) is 0", p, "01/02", "10/01");
    }

    private static void readFaults() {
        PencilForms p = told("prime 5;at 2 2;");
        for (int[] no : new int[][] {{4, 0, 0, 1}, {-1, 0, 0, 1}, {0, 3, 0, 1}, {0, -1, 0, 1}, {0, 0, 0, 11}, {0, 0, 0, -1}}) {
            due("read that is refused", p.read(no[0], no[1], no[2], no[3]), BAD);
        }
        due("read of nothing", p.read(0, 1, 0, 1), 0);
        due("NULL", p.torn(), 1);
        due("read that is refused", p.read(0, 3, 0, 1), BAD);
        due("NULL still", p.torn(), 1);
        due("read of nothing, not once", p.read(0, 1, 0, 0), 0);
        due("no FAULT", p.torn(), 0);
        due("read of nothing ahead of CELL 0", p.read(0, 0, -1, 1), 0);
        due("NULL comes ahead of INDEX", p.torn(), 1);
        p.sheet(0, 1, 11);
        layFour(p, 0, 0, 0, 0, 0, 1);
        layFour(p, 0, 4, 1, 1, 1, 3);
        due("the third is not whole", p.read(0, 1, 0, 3), 2);
        due("INDEX", p.torn(), 2);
        tables("those ahead came", p, "11/02", "10/03");
        due("another lane", p.read(0, 0, 0, 3), 0);
        due("CAST", p.torn(), 3);
        due("another lane, ahead of CELL 0", p.read(0, 2, -1, 3), 0);
        due("CAST comes ahead of INDEX", p.torn(), 3);
        for (int f : new int[] {-1, -4, LOWEST, 8, 11, HIGHEST, HIGHEST - 3}) {
            due("f " + f, p.read(0, 1, f, 2), 0);
            due("INDEX", p.torn(), 2);
        }
        due("a whole one that is refused", p.read(0, 1, 7, 1), -20);
        layFour(p, 0, 4, 1, 1, 1, 5);
        layFour(p, 0, 0, 0, 0, 0, 4);
        due("the one at 1 is refused ahead of the FAULT", p.read(0, 1, 0, 3), -21);
        tables("then none came", p, "11/02", "10/03");
        due("a read() that is refused came to no end", p.torn(), 2);
        due("the one ahead alone", p.read(0, 1, 0, 1), 1);
        due("no FAULT", p.torn(), 0);
        tables("it came", p, "41/02", "10/03");
        p.sheet(1, 0, 40);
        for (int i = 0; i < 10; i++) {
            layFour(p, 1, 4 * i, 0, 0, 0, i % 5);
        }
        due("ten", p.read(1, 0, 0, 10), 10);
        p.lay(1, 39, 5);
        due("the last of ten", p.read(1, 0, 0, 10), -29);
    }

    private static void count() {
        PencilForms p = filled(7, "123/006", "340/100");
        p.feed(1);
        p.keep(1);
        p.sheet(0, 1, 9);
        int[] want = {1, 7, 1, 9, 12, 8};
        for (int w = 0; w < want.length; w++) {
            due("count(" + w + ")", p.count(w), want[w]);
        }
        due("count(6)", p.count(6), BAD);
        due("count(-1)", p.count(-1), BAD);
        p.keep(0);
        due("count(0)", p.count(0), 2);
        p.cut(1, 2);
        due("count(1) when cut", p.count(1), 4);
        due("count(4) when cut", p.count(4), 3);
        due("count(5) when cut", p.count(5), 7);
        due("BAD", PencilForms.BAD, -1);
        due("STATE", PencilForms.STATE, -2);
        due("FULL", PencilForms.FULL, -3);
        due("NONE", PencilForms.NONE, -4);
    }
}
