/** Counts what is not as due, prints each of it, and ends the run with exit code 1 if there was any. */
final class Check {
    private static final int MOST_PRINTED = 40;

    private final String name;
    private int asked;
    private int wrong;

    Check(String name) {
        this.name = name;
    }

    void due(String call, long got, long want) {
        asked++;
        if (got != want) {
            wrong++;
            if (wrong <= MOST_PRINTED) {
                System.out.println(name + ": " + call + " answered " + got + ", due is " + want);
            }
        }
    }

    void that(String what, boolean holds) {
        due(what, holds ? 1 : 0, 1);
    }

    /** Both tables, each told by its rows with strokes between. */
    void tables(String what, PencilForms p, String a, String b) {
        that(what + ": A is " + show(p, 0) + ", due is " + a, show(p, 0).equals(a));
        that(what + ": B is " + show(p, 1) + ", due is " + b, show(p, 1).equals(b));
    }

    /** What a new object answers to a text, and its fault; THE TAPE is empty behind it. */
    void text(String text, int answer, int fault) {
        PencilForms p = new PencilForms();
        type(p, text);
        due("text \"" + text + "\"", p.text(), answer);
        due("fault of \"" + text + "\"", p.fault(), fault);
        due("THE TAPE behind \"" + text + "\"", p.count(2), 0);
    }

    boolean allRight() {
        return wrong == 0;
    }

    void finish() {
        System.out.println(name + ": " + asked + " answers, " + wrong + " wrong");
        if (wrong != 0) {
            System.exit(1);
        }
    }

    /** Feeds a text to THE TAPE. */
    static void type(PencilForms p, String text) {
        for (int i = 0; i < text.length(); i++) {
            p.feed(text.charAt(i));
        }
    }

    /** A new object that a text has told. */
    static PencilForms told(String text) {
        PencilForms p = new PencilForms();
        type(p, text);
        int lines = p.text();
        if (lines < 0) {
            throw new IllegalStateException("text not taken: " + text + " (" + lines + ")");
        }
        return p;
    }

    /** A table's rows, one behind another with strokes between. */
    static String show(PencilForms p, int t) {
        StringBuilder s = new StringBuilder();
        for (int i = 0; i < p.rule(0); i++) {
            s.append(i > 0 ? "/" : "");
            for (int j = 0; j < p.rule(1); j++) {
                s.append(p.cell(t, i, j));
            }
        }
        return s.toString();
    }

    /** An object with PRIME and tables of so many rows and columns, all 0. */
    static PencilForms sized(int prime, int rows, int columns) {
        PencilForms p = told("prime " + prime + ";");
        for (int i = 0; i < rows; i++) {
            p.open(0);
        }
        for (int j = 0; j < columns; j++) {
            p.open(1);
        }
        return p;
    }

    /** An object with PRIME and both tables as told row by row. */
    static PencilForms filled(int prime, String a, String b) {
        String[][] lines = {a.split("/"), b.split("/")};
        PencilForms p = sized(prime, lines[0].length, lines[0][0].length());
        for (int t = 0; t < 2; t++) {
            for (int i = 0; i < lines[t].length; i++) {
                for (int j = 0; j < lines[t][i].length(); j++) {
                    p.set(t, i, j, lines[t][i].charAt(j) - '0');
                }
            }
        }
        return p;
    }
}
