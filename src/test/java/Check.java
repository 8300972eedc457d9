/** Counts what is not as due, prints each of it, and ends the run with exit code 1 if there was any. */
final class Check {
    private static final int MOST_PRINTED = 40;

    private final String name;
    private int asked;
    private int wrong;

    Check(String name) {
        this.name = name;
    }

    void due(String call, long got, long want) {
        asked++;
        if (got != want) {
            wrong++;
            if (wrong <= MOST_PRINTED) {
                System.out.println(name + ": " + call + " answered " + got + ", due is " + want);
            }
        }
    }

    void that(String what, boolean holds) {
        due(what, holds ? 1 : 0, 1);
    }

    boolean allRight() {
        return wrong == 0;
    }

    void finish() {
        System.out.println(name + ": " + asked + " answers, " + wrong + " wrong");
        if (wrong != 0) {
            System.exit(1);
        }
    }

    /** Feeds a text to THE TAPE. */
    static void type(PencilForms p, String text) {
        for (int i = 0; i < text.length(); i++) {
            p.feed(text.charAt(i));
        }
    }

    /** A new object that a text has told. */
    static PencilForms told(String text) {
        PencilForms p = new PencilForms();
        type(p, text);
        int lines = p.text();
        if (lines < 0) {
            throw new IllegalStateException("text not taken: " + text + " (" + lines + ")");
        }
        return p;
    }
}
