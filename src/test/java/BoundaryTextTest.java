/** The edges that the document names for a new object, THE TAPE, a text, its FAULTS, rule and cell (promises 1 to 7). */
public final class BoundaryTextTest {
    private static final int BAD = -1;
    private static final int STATE = -2;
    private static final int FULL = -3;
    private static final int NONE = -4;
    private static final int LOWEST = Integer.MIN_VALUE;
    private static final int HIGHEST = Integer.MAX_VALUE;
    private static final int TAPE = 160;
    private static final int[] PRIMES = {2, 3, 5, 7};

    private static final Check CHECK = new Check("BoundaryTextTest");

    private static void due(String call, long got, long want) {
        CHECK.due(call, got, want);
    }

    public static void main(String[] args) {
        aNewObjectHasNothing();
        objectsShareNothing();
        theCallNumber512StillAnswers();
        feedTakesBytes0To127();
        feedIsFullBehind160();
        everyPlaceOfTheTapeIsRead();
        endKeepsTheFirst();
        endIsBadOutside();
        anEmptyTextTellsAll();
        theTapeIsEmptyBehindEveryText();
        faultIsThatOfTheLatestText();
        everyByteAlone();
        everyByteWhereANumberStands();
        everyByteWhereALineEnds();
        namesAreAsLongAsMayBe();
        numbersHaveOneOrTwoFigures();
        boundsOfPrime();
        boundsOfE();
        boundsOfQ();
        boundsOfX();
        tokensThatCanNotStandThere();
        theEndThatCanNotStandThere();
        primeForTheSecondTime();
        blocksUpToFourAndBeyond();
        everyThreeBlocks();
        blocksAsFarAsTheyAre();
        xNotBelowPrimeComesBehindAll();
        theFirstFaultMet();
        aTextWithAFaultChangesNothingElse();
        aTextThatIsTakenReplacesAll();
        aTextWithoutPrimeTells7();
        ruleTakes0To7();
        ruleWhenEmptyAndFull();
        cellHasPlacesAlone();
        refusedCallsChangeNothing();
        CHECK.finish();
    }

    // ---- promise 1, and how long an object is used

    private static void aNewObjectHasNothing() {
        due("new: ROWS", new PencilForms().rule(0), 0);
        due("new: COLUMNS", new PencilForms().rule(1), 0);
        due("new: PRIME is 7 at first", new PencilForms().rule(2), 7);
        due("new: THE TAPE", new PencilForms().count(2), 0);
        due("new: IMAGES", new PencilForms().count(0), 0);
        due("new: fault", new PencilForms().fault(), 0);
        due("new: torn", new PencilForms().torn(), 0);
        for (int k = 0; k < 4; k++) {
            PencilForms p = new PencilForms();
            due("new: SHEET " + k + " is nothing", p.lay(k, 0, 0), -11);
            for (int lane = 0; lane < 3; lane++) {
                due("new: nothing comes of SHEET " + k, p.read(k, lane, 0, 1), 0);
                due("new: nothing is NULL in lane " + lane, p.torn(), 1);
            }
        }
        for (int k = 0; k < 2; k++) {
            due("new: back(" + k + ")", new PencilForms().back(k), STATE);
            due("new: alike(" + k + ")", new PencilForms().alike(k), STATE);
        }
        due("new: cut(0, 0)", new PencilForms().cut(0, 0), 0);
        due("new: cut(1, 0)", new PencilForms().cut(1, 0), BAD);
        due("new: cut(0, 1)", new PencilForms().cut(0, 1), BAD);
        due("new: set(0, 0, 0, 0)", new PencilForms().set(0, 0, 0, 0), BAD);
        due("new: mix(0, 0, 1, 1)", new PencilForms().mix(0, 0, 1, 1), BAD);
        due("new: times(1, 0, 1)", new PencilForms().times(1, 0, 1), BAD);
        due("new: swap(0, 0, 0)", new PencilForms().swap(0, 0, 0), BAD);
        for (int what = 0; what < 3; what++) {
            due("new: turn(" + what + ")", new PencilForms().turn(what), 0);
        }
    }

    private static void objectsShareNothing() {
        Refusals.full();
        PencilForms p = new PencilForms();
        due("another object: ROWS", p.rule(0), 0);
        due("another object: THE TAPE", p.count(2), 0);
        due("another object: IMAGES", p.count(0), 0);
        due("another object: SHEET 0", p.count(3), NONE);
        due("another object: torn", p.torn(), 0);
    }

    private static void theCallNumber512StillAnswers() {
        PencilForms p = new PencilForms();
        Check.type(p, "prime 5;at 4 3;");
        for (int n = 16; n <= 510; n++) {
            p.fault();
        }
        due("the 511th call", p.text(), 2);
        due("the 512th call", p.length(4, 0), 3);
        p = Check.told("prime 5;at 4 4;");
        p.keep(0);
        for (int n = 18; n <= 511; n++) {
            p.sheet(n % 4, n % 3, 40);
        }
        due("the 512th call, behind many sheets", p.alike(0), 1);
    }

    // ---- promises 2 and 3

    private static void feedTakesBytes0To127() {
        for (int c = 0; c <= 127; c++) {
            due("feed(" + c + ")", new PencilForms().feed(c), 1);
        }
        for (int c : new int[] {-1, 128, 255, 256, 256 + ';', LOWEST, LOWEST + ';', HIGHEST}) {
            PencilForms p = new PencilForms();
            due("feed(" + c + ")", p.feed(c), BAD);
            due("THE TAPE behind it", p.count(2), 0);
            due("the next byte is the first", p.feed(';'), 1);
        }
    }

    private static PencilForms fed(String text, int many) {
        PencilForms p = new PencilForms();
        Check.type(p, text);
        for (int n = text.length(); n < many; n++) {
            p.feed(' ');
        }
        return p;
    }

    private static void feedIsFullBehind160() {
        PencilForms p = fed("", TAPE - 1);
        due("159 bytes", p.count(2), TAPE - 1);
        due("the 160th", p.feed('a'), TAPE);
        due("the 161st", p.feed('a'), FULL);
        due("the 161st is not there", p.count(2), TAPE);
        due("again", p.feed(0), FULL);
        due("BAD comes ahead of FULL: 128", p.feed(128), BAD);
        due("BAD comes ahead of FULL: -1", p.feed(-1), BAD);
        due("end(159)", p.end(TAPE - 1), TAPE);
        due("the 160th again", p.feed(' '), TAPE);
        due("the 161st again", p.feed(' '), FULL);
        due("the byte that was cut off is not read", p.text(), 0);
        due("behind text() there is room", p.feed('a'), 1);
    }

    private static void everyPlaceOfTheTapeIsRead() {
        for (int place = 0; place < TAPE; place++) {
            PencilForms p = fed("", place);
            p.feed('!');
            while (p.count(2) < TAPE) {
                p.feed(' ');
            }
            due("a FAULT at place " + place, p.text(), -10 - place);
        }
        PencilForms p = fed("", TAPE - 6);
        Check.type(p, "col 2;");
        due("a line that ends at place 159", p.text(), 1);
        due("its COLUMNS", p.rule(1), 3);
        p = fed("", TAPE - 5);
        Check.type(p, "col 2;");
        due("a line whose end would be at place 160", p.text(), -10 - TAPE);
        due("the length", p.fault(), 2);
        p = fed("prime 2;at 2 1;", TAPE);
        due("6 at the length 160", p.text(), -10 - TAPE);
        due("its FAULT", p.fault(), 6);
    }

    private static void endKeepsTheFirst() {
        for (int n = 0; n <= 6; n++) {
            PencilForms p = fed("col 1;", 6);
            due("end(" + n + ") of 6", p.end(n), 6);
            due("THE TAPE has", p.count(2), n);
            due("the next byte comes behind it", p.feed('9'), n + 1);
        }
        PencilForms p = fed("col 1;row 2;", 12);
        p.end(4);
        Check.type(p, "2;");
        due("the first 4 and what came behind", p.text(), 1);
        due("col 2", p.col(0), 2);
        p = fed("inf 3;", 6);
        due("end(6) of 6", p.end(6), 6);
        due("all is kept", p.text(), 1);
        due("inf 3", p.length(7, 0), 3);
    }

    private static void endIsBadOutside() {
        due("end(0) of none", new PencilForms().end(0), 0);
        due("end(1) of none", new PencilForms().end(1), BAD);
        due("end(160) of none", new PencilForms().end(TAPE), BAD);
        for (int n : new int[] {-1, 7, TAPE, LOWEST, HIGHEST}) {
            PencilForms p = fed("col 1;", 6);
            due("end(" + n + ") of 6", p.end(n), BAD);
            due("THE TAPE has", p.count(2), 6);
            due("its text", p.text(), 1);
        }
        due("end(160) of 160", fed("", TAPE).end(TAPE), TAPE);
        due("end(161) of 160", fed("", TAPE).end(TAPE + 1), BAD);
        due("end(0) of 160", fed("", TAPE).end(0), TAPE);
    }

    // ---- promises 4 and 5, and what a text is

    private static void textOf(String text, int answer, int fault) {
        CHECK.text(text, answer, fault);
    }

    private static void anEmptyTextTellsAll() {
        for (String none : new String[] {"", " ", "   "}) {
            PencilForms p = Check.told("prime 3;at 2 2;");
            p.keep(1);
            Check.type(p, none);
            due("text() of no line", p.text(), 0);
            due("no FAULT", p.fault(), 0);
            due("no ROWS, no COLUMNS", p.turn(1), 0);
            due("PRIME", p.rule(2), 7);
            due("IMAGES are gone", p.back(1), STATE);
        }
        due("text() of 160 blanks", fed("", TAPE).text(), 0);
    }

    private static void theTapeIsEmptyBehindEveryText() {
        String[] texts = {"", "col 1;", "?", "x", "col 5;", "prime 2;prime 2;", "col 4;", "prime 2;at 2 1;"};
        int[] faults = {0, 0, 1, 2, 3, 4, 5, 6};
        for (int n = 0; n < texts.length; n++) {
            PencilForms p = fed(texts[n], 0);
            p.text();
            due("fault of \"" + texts[n] + "\"", p.fault(), faults[n]);
            due("THE TAPE behind it", p.count(2), 0);
            Check.type(p, "inf 1;");
            due("the next text begins at place 0", p.text(), 1);
        }
    }

    private static void faultIsThatOfTheLatestText() {
        PencilForms p = fed("col 4;", 0);
        due("fault() ahead of text()", p.fault(), 0);
        p.text();
        due("fault() behind it", p.fault(), 5);
        due("fault() asked again", p.fault(), 5);
        p.feed('x');
        p.end(0);
        p.open(0);
        p.keep(0);
        p.back(0);
        p.read(0, 0, 0, 1);
        due("fault() behind other calls", p.fault(), 5);
        p.feed('!');
        p.text();
        due("fault() of the latest", p.fault(), 1);
        p.text();
        due("0, when the latest was taken", p.fault(), 0);
    }

    private static boolean isName(int c) {
        return c >= 'a' && c <= 'z';
    }

    private static boolean isFigure(int c) {
        return c >= '0' && c <= '9';
    }

    private static void everyByteAlone() {
        for (int c = 0; c <= 127; c++) {
            boolean token = isName(c) || isFigure(c) || c == ';';
            textOf(String.valueOf((char) c), c == ' ' ? 0 : -10, c == ' ' ? 0 : token ? 2 : 1);
        }
    }

    private static void everyByteWhereANumberStands() {
        for (int c = 0; c <= 127; c++) {
            String text = "col " + (char) c + ";";
            if (c >= '0' && c <= '3') {
                textOf(text, 1, 0);
            } else if (c == ' ') {
                textOf(text, -15, 2);
            } else {
                int fault = c == '4' ? 5 : isFigure(c) ? 3 : isName(c) || c == ';' ? 2 : 1;
                textOf(text, -14, fault);
            }
        }
    }

    private static void everyByteWhereALineEnds() {
        for (int c = 0; c <= 127; c++) {
            if (c != ';' && c != ' ' && !isFigure(c)) {
                textOf("inf 2" + (char) c, -15, isName(c) ? 2 : 1);
                textOf("inf 2 " + (char) c + ";", -16, isName(c) ? 2 : 1);
            }
        }
        textOf("inf 2;", 1, 0);
        textOf("inf 2 ;", 1, 0);
        textOf("inf 2 1;", -16, 2);
    }

    private static void namesAreAsLongAsMayBe() {
        for (String name : new String[] {"prime", "col", "row", "inf", "at"}) {
            textOf(name + "x 2 2;", -10, 2);
            textOf("x" + name + " 2 2;", -10, 2);
            textOf(name.substring(1) + " 2 2;", -10, 2);
            textOf(name.substring(0, name.length() - 1) + " 2 2;", -10, 2);
            textOf(name + name + " 2 2;", -10, 2);
            textOf(name.toUpperCase(), -10, 1);
        }
        for (String line : new String[] {"prime 2;", "col 1;", "row 1;", "inf 1;", "at 1 1;"}) {
            for (int at = 0; at < line.indexOf(' '); at++) {
                StringBuilder other = new StringBuilder(line);
                other.setCharAt(at, line.charAt(at) == 'z' ? 'y' : (char) (line.charAt(at) + 1));
                textOf(other.toString(), -10, 2);
            }
        }
        textOf("co l 1;", -10, 2);
        textOf("colX 1;", -13, 1);
        textOf("col3;at6 1;", -19, 5);
        textOf("col2;at6 1;", 2, 0);
        textOf("  col   2  ;  at  6  1  ;  ", 2, 0);
    }

    private static void numbersHaveOneOrTwoFigures() {
        textOf("col 3;", 1, 0);
        textOf("col 03;", 1, 0);
        textOf("col 003;", -14, 1);
        textOf("col 0003;", -14, 1);
        textOf("col 0 3;", -16, 2);
        textOf("at 06 04;", 1, 0);
        textOf("at 006 4;", -13, 1);
        textOf("at 6 004;", -15, 1);
        textOf("at 64;", -13, 3);
        textOf("prime 05;", 1, 0);
        textOf("prime 005;", -16, 1);
        textOf("inf 001;", -14, 1);
        textOf("row 000;", -14, 1);
        textOf("000;", -10, 1);
        textOf("00;", -10, 2);
        textOf("prime 4294967298;", -16, 1);
        textOf("col 1 000;", -16, 1);
    }

    /** A line with each number of one or two figures: the bounds are told by what is within them. */
    private static void bounds(String ahead, String behind, int least, int most) {
        for (int n = 0; n <= 99; n++) {
            boolean within = n >= least && n <= most;
            textOf(ahead + n + behind, within ? 1 : -10 - ahead.length(), within ? 0 : 3);
            if (n < 10) {
                textOf(ahead + "0" + n + behind, within ? 1 : -10 - ahead.length(), within ? 0 : 3);
            }
        }
    }

    private static void boundsOfPrime() {
        for (int n = 0; n <= 99; n++) {
            boolean prime = n == 2 || n == 3 || n == 5 || n == 7;
            textOf("prime " + n + ";", prime ? 1 : -16, prime ? 0 : 3);
        }
        for (int prime : PRIMES) {
            due("PRIME", Check.told("prime " + prime + ";").rule(2), prime);
        }
    }

    /** E 4 is within its bounds, but such a block has 5 rows or columns. */
    private static void boundsOfE() {
        for (String name : new String[] {"col ", "row "}) {
            for (int n = 0; n <= 99; n++) {
                textOf(name + n + ";", n <= 3 ? 1 : -14, n <= 3 ? 0 : n == 4 ? 5 : 3);
            }
        }
        due("col 0: ROWS and COLUMNS", Check.told("col 0;").cut(0, 0), 1);
        due("row 0: ROWS and COLUMNS", Check.told("row 0;").cut(0, 0), 10);
        due("col 3: ROWS and COLUMNS", Check.told("col 3;").cut(0, 0), 34);
        due("row 3: ROWS and COLUMNS", Check.told("row 3;").cut(0, 0), 43);
    }

    private static void boundsOfQ() {
        bounds("inf ", ";", 1, 4);
        bounds("at 3 ", ";", 1, 4);
        due("inf 1: ROWS and COLUMNS", Check.told("inf 1;").cut(0, 0), 11);
        due("inf 4: ROWS and COLUMNS", Check.told("inf 4;").cut(0, 0), 44);
        due("at 0 1: ROWS and COLUMNS", Check.told("at 0 1;").cut(0, 0), 11);
        due("at 0 4: ROWS and COLUMNS", Check.told("at 0 4;").cut(0, 0), 44);
    }

    private static void boundsOfX() {
        bounds("at ", " 1;", 0, 6);
        textOf("at 7 0;", -13, 3);
        textOf("at 6 0;", -15, 3);
    }

    private static void tokensThatCanNotStandThere() {
        textOf("1;", -10, 2);
        textOf("; col 1;", -10, 2);
        textOf("col col;", -14, 2);
        textOf("col ;", -14, 2);
        textOf("at 1 at;", -15, 2);
        textOf("at 1;", -14, 2);
        textOf("prime ;", -16, 2);
        textOf("inf 1 inf 1;", -16, 2);
        textOf("inf 1;1;", -16, 2);
        textOf("inf 1;;", -16, 2);
        textOf("inf 1; x", -17, 2);
    }

    private static void theEndThatCanNotStandThere() {
        for (String cut : new String[] {"prime", "prime ", "prime 2", "prime 2 ", "col", "col 1", "row", "row 1 ", "inf  ", "inf 4",
            "at", "at ", "at 1", "at 1 ", "at 1 1", "at 1 1  ", "inf 1;inf", "prime 2;at 6 1"}) {
            textOf(cut, -10 - cut.length(), 2);
        }
    }

    private static void primeForTheSecondTime() {
        textOf("prime 2;prime 2;", -18, 4);
        textOf("prime 2;prime 3;", -18, 4);
        textOf("prime 2; prime", -19, 4);
        textOf("prime 2;prime;", -18, 4);
        textOf("prime 2;prime 9;", -18, 4);
        textOf("prime 2;prime !", -18, 4);
        textOf("inf 1;prime 2;inf 1;prime 2;", -30, 4);
        PencilForms p = Check.told("prime 2;");
        Check.type(p, "prime 3;");
        due("the first time in another text", p.text(), 1);
        due("PRIME", p.rule(2), 3);
    }

    private static void blocksUpToFourAndBeyond() {
        textOf("col 0;col 0;col 0;col 0;", 4, 0);
        textOf("col 0;col 0;col 0;col 0;col 0;", -38, 5);
        textOf("row 0;row 0;row 0;row 0;", 4, 0);
        textOf("row 0;row 0;row 0;row 0;row 0;", -38, 5);
        textOf("col 0;col 0;col 0;col 0;row 0;row 0;row 0;row 0;", 8, 0);
        textOf("col 0;col 0;col 0;col 0;row 1;", -38, 5);
        textOf("row 0;row 0;row 0;row 0;col 1;", -38, 5);
        textOf("row 0;row 0;row 0;row 0;inf 1;", -38, 5);
        textOf("col 0;col 0;col 0;col 0;at 0 1;", -39, 5);
        textOf("inf 3;inf 1;", 2, 0);
        textOf("inf 3;inf 2;", -20, 5);
        textOf("col 1;col 1;", 2, 0);
        textOf("col 1;col 2;", -20, 5);
        textOf("row 1;row 1;", 2, 0);
        textOf("row 1;row 2;", -20, 5);
        textOf("col 3;row 0;", 2, 0);
        textOf("row 3;col 0;", 2, 0);
        textOf("col 3;col 0;", -20, 5);
        textOf("row 3;row 0;", -20, 5);
        textOf("at 1 4;at 1 1;", -22, 5);
        textOf("inf 4;prime 2;", 2, 0);
    }

    /** Every three blocks of all kinds and sizes, against the Model. */
    private static void everyThreeBlocks() {
        String[] lines = {"", "col 0;", "col 1;", "col 2;", "col 3;", "row 0;", "row 1;", "row 2;", "row 3;", "inf 1;", "inf 2;",
            "inf 3;", "inf 4;", "at 5 1;", "at 0 2;", "at 6 3;", "at 3 4;"};
        for (String one : lines) {
            for (String two : lines) {
                for (String three : lines) {
                    againstModel(one + two + three);
                }
            }
        }
    }

    private static void againstModel(String text) {
        PencilForms p = new PencilForms();
        Model model = new Model();
        Check.type(p, text);
        for (int i = 0; i < text.length(); i++) {
            model.feed(text.charAt(i));
        }
        due("text \"" + text + "\"", p.text(), model.text());
        due("its fault", p.fault(), model.fault());
        for (int t = 0; t < 2; t++) {
            for (int i = 0; i < 4; i++) {
                for (int j = 0; j < 4; j++) {
                    due(text + " cell(" + t + ", " + i + ", " + j + ")", p.cell(t, i, j), model.cell(t, i, j));
                }
            }
        }
    }

    private static void blocksAsFarAsTheyAre() {
        CHECK.tables("inf 1: B has no 1", Check.told("inf 1;"), "1", "0");
        CHECK.tables("at 2 1: A has X alone", Check.told("at 2 1;"), "2", "1");
        CHECK.tables("inf 2 reaches no next block", Check.told("inf 2;at 0 2;"), "1000/0100/0001/0000", "0100/0000/0010/0001");
        CHECK.tables("at 2 2 reaches no next block", Check.told("at 2 2;inf 2;"), "2100/0200/0010/0001", "1000/0100/0001/0000");
        CHECK.tables("col 1 has a column more", Check.told("col 1;col 1;"), "1000/0010", "0100/0001");
        CHECK.tables("row 1 has a row more", Check.told("row 1;row 1;"), "10/00/01/00", "00/10/00/01");
        CHECK.tables("col 0 is a column of 0", Check.told("inf 1;col 0;inf 1;"), "100/001", "000/000");
        CHECK.tables("row 0 is a row of 0", Check.told("inf 1;row 0;inf 1;"), "10/00/01", "00/00/00");
        CHECK.tables("col 3 is full", Check.told("col 3;"), "1000/0100/0010", "0100/0010/0001");
        CHECK.tables("row 3 is full", Check.told("row 3;"), "100/010/001/000", "000/100/010/001");
        CHECK.tables("inf 4 is full", Check.told("inf 4;"), "1000/0100/0010/0001", "0100/0010/0001/0000");
        CHECK.tables("at 6 4 is full", Check.told("at 6 4;"), "6100/0610/0061/0006", "1000/0100/0010/0001");
    }

    private static void xNotBelowPrimeComesBehindAll() {
        for (int prime : PRIMES) {
            for (int x = 0; x <= 6; x++) {
                boolean below = x < prime;
                for (String text : new String[] {"prime " + prime + ";at " + x + " 1;", "at " + x + " 1;prime " + prime + ";",
                    "prime " + prime + ";at " + x + " 1;  ", "prime " + prime + ";at " + x + " 1;at 0 3;"}) {
                    int lines = text.endsWith("at 0 3;") ? 3 : 2;
                    textOf(text, below ? lines : -10 - text.length(), below ? 0 : 6);
                }
            }
        }
        PencilForms p = Check.told("at 6 1;");
        Check.type(p, "prime 2;at 1 1;");
        due("an X of the text before does not count", p.text(), 2);
        p = new PencilForms();
        Check.type(p, "prime 2;at 6 1;");
        due("an X that is too large", p.text(), -25);
        Check.type(p, "prime 2;");
        due("nor one of a text with a FAULT", p.text(), 1);
        textOf("prime 2;at 2 1;at 0 4;", -30, 5);
        textOf("prime 2;at 2 1;at 0 5;", -30, 3);
        textOf("prime 2;at 2 1;prime 3;", -25, 4);
        textOf("prime 2;at 2 1;!", -25, 1);
        textOf("prime 2;at 2 1;z", -25, 2);
    }

    /** Each of two FAULTS alone would be told; the one that is met first is. */
    private static void theFirstFaultMet() {
        textOf("col 5 !", -14, 3);
        textOf("col ! 5", -14, 1);
        textOf("col 4;!", -14, 5);
        textOf("col 4", -14, 5);
        textOf("col 5", -14, 3);
        textOf("at 7", -13, 3);
        textOf("at 7 !", -13, 3);
        textOf("at 6 !", -15, 1);
        textOf("inf 4;at 1 5;", -21, 3);
        textOf("inf 4;at 7 1;", -19, 3);
        textOf("inf 4;at 6 1;", -21, 5);
        textOf("xyz !", -10, 2);
        textOf("xyz 123", -10, 2);
        textOf("! xyz", -10, 1);
        textOf("prime 4;prime 4;", -16, 3);
    }

    private static void aTextWithAFaultChangesNothingElse() {
        for (String text : new String[] {"inf 1;!", "inf 1;x", "inf 1;col 5;", "prime 2;prime 2;", "inf 1;col 4;", "prime 2;at 2 1;"}) {
            PencilForms p = Refusals.rich();
            p.end(0);
            String a = Check.show(p, 0);
            String b = Check.show(p, 1);
            Check.type(p, text);
            CHECK.that("\"" + text + "\" has a FAULT", p.text() <= -10);
            CHECK.tables("behind \"" + text + "\"", p, a, b);
            due("PRIME", p.rule(2), 5);
            due("IMAGES", p.count(0), 1);
            due("torn()", p.torn(), 2);
            due("SHEET 0", p.count(3), 9);
            due("IMAGE 0", p.back(0), 32);
        }
    }

    private static void aTextThatIsTakenReplacesAll() {
        PencilForms p = Refusals.full();
        p.end(0);
        Check.type(p, "prime 2;col 1;");
        due("a text that is taken", p.text(), 2);
        CHECK.tables("in place of what there was", p, "10", "01");
        due("PRIME", p.rule(2), 2);
        due("IMAGES are gone", p.count(0), 0);
        due("IMAGE 0", p.back(0), STATE);
        due("IMAGE 1", p.alike(1), STATE);
        due("there was none to keep", p.keep(1), 0);
        due("SHEETS stay", p.count(3), 40);
        due("torn() stays", p.torn(), 3);
        p.open(0);
        p.open(0);
        p.open(1);
        CHECK.tables("nothing of the old ones comes up again", p, "100/000/000", "010/000/000");
    }

    private static void aTextWithoutPrimeTells7() {
        PencilForms p = Check.told("prime 2;");
        Check.type(p, "at 6 1;");
        due("X 6 is below 7", p.text(), 1);
        due("PRIME", p.rule(2), 7);
        due("what there is", p.cell(0, 0, 0), 6);
    }

    // ---- promises 6 and 7

    private static void ruleTakes0To7() {
        for (PencilForms p : new PencilForms[] {new PencilForms(), Refusals.rich(), Refusals.full()}) {
            for (int what = 0; what <= 7; what++) {
                CHECK.that("rule(" + what + ") is taken", p.rule(what) >= 0);
            }
            for (int what : new int[] {-1, 8, LOWEST, HIGHEST}) {
                due("rule(" + what + ")", p.rule(what), BAD);
            }
        }
    }

    private static void rules(PencilForms p, String what, int... want) {
        for (int w = 0; w < want.length; w++) {
            due(what + ": rule(" + w + ")", p.rule(w), want[w]);
        }
    }

    private static void ruleWhenEmptyAndFull() {
        rules(new PencilForms(), "nothing", 0, 0, 7, 0, 0, 0, 0, 0);
        rules(Check.told("col 0;col 0;col 0;col 0;"), "four COL indices", 0, 4, 7, 4, 0, 0, 0, 0);
        rules(Check.told("row 0;row 0;row 0;row 0;"), "four ROW indices", 4, 0, 7, 0, 4, 0, 0, 0);
        rules(Check.sized(2, 4, 4), "all is 0", 4, 4, 2, 4, 4, 0, 0, 0);
        rules(Check.told("col 3;row 0;"), "COL index 3", 4, 4, 7, 1, 1, 0, 0, 0);
        rules(Check.told("row 3;col 0;"), "ROW index 3", 4, 4, 7, 1, 1, 0, 0, 0);
        rules(Check.told("inf 4;"), "one length beyond all", 4, 4, 7, 0, 0, 4, 0, 0);
        rules(Check.told("inf 1;inf 1;inf 1;inf 1;"), "four lengths beyond all", 4, 4, 7, 0, 0, 4, 0, 0);
        rules(Check.told("at 0 4;"), "one length at 0", 4, 4, 7, 0, 0, 0, 4, 0);
        rules(Check.told("at 0 1;at 6 1;at 6 1;at 3 1;"), "four lengths", 4, 4, 7, 0, 0, 0, 4, 0);
        rules(Check.told("prime 2;at 1 2;inf 2;"), "at the last x and beyond all", 4, 4, 2, 0, 0, 2, 2, 0);
        // modulo 2 neither x x x x and x and 1 nor (x x and x and 1) twice is 0 at an x
        rules(Check.filled(2, "0001/1001/0100/0010", "1000/0100/0010/0001"), "REST is all", 4, 4, 2, 0, 0, 0, 0, 4);
        rules(Check.filled(2, "0110/1101/0001/0011", "1000/0100/0010/0001"), "REST is all, twice", 4, 4, 2, 0, 0, 0, 0, 4);
        due("REST, asked for alone", Check.told("col 1;row 0;inf 1;").rule(7), 0);
        due("REST beside a ROW index, asked for alone", Check.told("row 2;inf 1;").rule(7), 0);
        PencilForms p = Check.sized(7, 3, 4);
        due("REST of 0", p.rule(7), 0);
        p.turn(1);
        due("REST of 0, flipped", p.rule(7), 0);
        p.set(0, 0, 0, 1);
        due("REST, when one PLACE is 1", p.rule(7), 0);
        rules(Check.filled(2, "010/110/001", "100/010/000"), "REST and beyond all", 3, 3, 2, 0, 0, 1, 0, 2);
    }

    private static void cellHasPlacesAlone() {
        for (int m = 0; m <= 4; m++) {
            for (int n = 0; n <= 4; n++) {
                PencilForms p = Check.sized(7, m, n);
                for (int t = -1; t <= 2; t++) {
                    for (int i = -1; i <= 5; i++) {
                        for (int j = -1; j <= 5; j++) {
                            boolean place = t >= 0 && t <= 1 && i >= 0 && i < m && j >= 0 && j < n;
                            due("cell(" + t + ", " + i + ", " + j + ") of " + m + n, p.cell(t, i, j), place ? 0 : BAD);
                        }
                    }
                }
            }
        }
        PencilForms p = Refusals.full();
        for (int far : new int[] {LOWEST, HIGHEST}) {
            due("cell(far, 0, 0)", p.cell(far, 0, 0), BAD);
            due("cell(0, far, 0)", p.cell(0, far, 0), BAD);
            due("cell(0, 0, far)", p.cell(0, 0, far), BAD);
        }
    }

    // ---- what is refused

    private static void refusedCallsChangeNothing() {
        Refusals rich = new Refusals(CHECK, Refusals::rich, 10);
        rich.isNoticed("feed(' ')", 6, p -> p.feed(' '));
        rich.isNoticed("end(4)", 5, p -> p.end(4));
        rich.isNoticed("text()", -15, p -> p.text());
        for (int no : new int[] {-1, 128, LOWEST, HIGHEST}) {
            rich.due("feed(" + no + ")", BAD, p -> p.feed(no));
        }
        for (int no : new int[] {-1, 6, 160, LOWEST, HIGHEST}) {
            rich.due("end(" + no + ")", BAD, p -> p.end(no));
        }
        for (int no : new int[] {-1, 8}) {
            rich.due("rule(" + no + ")", BAD, p -> p.rule(no));
        }
        rich.due("cell(2, 0, 0)", BAD, p -> p.cell(2, 0, 0));
        rich.due("cell(0, 3, 0)", BAD, p -> p.cell(0, 3, 0));
        rich.due("cell(0, 0, 3)", BAD, p -> p.cell(0, 0, 3));
        Refusals full = new Refusals(CHECK, Refusals::full, 41);
        full.due("feed(59) when full", FULL, p -> p.feed(';'));
        full.due("feed(-1) when full", BAD, p -> p.feed(-1));
        full.due("end(161) when full", BAD, p -> p.end(161));
        Refusals none = new Refusals(CHECK, PencilForms::new, 3);
        none.due("end(1) of nothing", BAD, p -> p.end(1));
        none.due("cell(0, 0, 0) of nothing", BAD, p -> p.cell(0, 0, 0));
    }
}
