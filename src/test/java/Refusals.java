import java.util.function.Supplier;
import java.util.function.ToIntFunction;

/**
 * Whether a refused call changes nothing: of two objects made alike, one of them with the call besides, all is
 * asked that can be asked. Much of it is lost by asking, so each question goes to an object made anew.
 */
final class Refusals {
    private static final int SHEETS = 4;
    private static final int LANES = 3;
    private static final int IMAGES = 2;

    private final Check check;
    private final Supplier<PencilForms> maker;
    private final int mostCells;
    private final String before;

    /** mostCells: how many CELLS of each SHEET are looked at. */
    Refusals(Check check, Supplier<PencilForms> maker, int mostCells) {
        this.check = check;
        this.maker = maker;
        this.mostCells = mostCells;
        before = fingerprint(maker);
    }

    void due(String call, int want, ToIntFunction<PencilForms> ask) {
        check.due(call, ask.applyAsInt(maker.get()), want);
        check.that(call + " changes nothing", fingerprint(() -> after(ask)).equals(before));
    }

    /** That a call which does change something would be noticed. */
    void isNoticed(String call, int want, ToIntFunction<PencilForms> ask) {
        check.due(call, ask.applyAsInt(maker.get()), want);
        check.that(call + " is noticed", !fingerprint(() -> after(ask)).equals(before));
    }

    /** An object that has something of all: tables, an image, sheets of each lane and none, faults, bytes on THE TAPE. */
    static PencilForms rich() {
        PencilForms p = Check.told("prime 5;at 3 2;row 0;");
        p.keep(0);
        p.open(1);
        p.set(0, 2, 2, 4);
        p.set(1, 2, 0, 2);
        for (int lane = 0; lane < LANES; lane++) {
            p.sheet(lane, lane, 9);
            for (int i = 0; i < 8; i++) {
                p.lay(lane, i, (i + lane) % 2);
            }
        }
        p.read(0, 0, 6, 1);
        Check.type(p, "col 9;");
        p.text();
        Check.type(p, "col 1");
        return p;
    }

    /** An object that is full: 4 ROWS, 4 COLUMNS, both images, THE TAPE, a sheet of 40 CELLS. */
    static PencilForms full() {
        PencilForms p = Check.told("prime 3;at 1 2;inf 2;");
        p.keep(0);
        p.set(0, 3, 0, 2);
        p.keep(1);
        p.set(1, 3, 0, 2);
        p.sheet(0, 2, 40);
        p.lay(0, 39, 2);
        p.lay(0, 38, 3);
        p.read(0, 1, 0, 1);
        for (int i = 0; i < 160; i++) {
            p.feed("row 1 ;  ".charAt(i % 9));
        }
        return p;
    }

    private PencilForms after(ToIntFunction<PencilForms> ask) {
        PencilForms p = maker.get();
        ask.applyAsInt(p);
        return p;
    }

    private String fingerprint(Supplier<PencilForms> from) {
        StringBuilder s = new StringBuilder();
        tellNow(from.get(), s);
        for (int k = 0; k < IMAGES; k++) {
            PencilForms p = from.get();
            s.append("\nimage ").append(p.back(k));
            tellNow(p, s);
        }
        PencilForms p = from.get();
        s.append("\ntape ").append(p.text());
        tellNow(p, s);
        for (int k = 0; k < SHEETS; k++) {
            tellSheet(from, k, s);
        }
        return s.toString();
    }

    private static void tellNow(PencilForms p, StringBuilder s) {
        s.append(" prime ").append(p.rule(2)).append(" size ").append(p.rule(0)).append(' ').append(p.rule(1));
        s.append(' ').append(Check.show(p, 0)).append(' ').append(Check.show(p, 1));
        s.append(" fault ").append(p.fault()).append(" torn ").append(p.torn());
        for (int what = 0; what < 6; what++) {
            s.append(' ').append(p.count(what));
        }
    }

    private void tellSheet(Supplier<PencilForms> from, int k, StringBuilder s) {
        PencilForms laid = from.get();
        s.append("\nsheet ").append(k);
        for (int i = 0; i <= mostCells; i++) {
            s.append(' ').append(laid.lay(k, i, 0));
        }
        for (int lane = 0; lane < LANES; lane++) {
            PencilForms p = from.get();
            s.append(" lane ").append(p.read(k, lane, 0, 1)).append(' ').append(p.torn());
            for (int i = 0; i < mostCells && p.torn() != 3; i++) {
                tellCell(from.get(), k, lane, i, s);
            }
        }
    }

    /** One CELL among three of 0 (behind the first ones, a 1), read into tables of 0. */
    private static void tellCell(PencilForms p, int k, int lane, int i, StringBuilder s) {
        int first = Math.max(0, i - 3);
        p.cut(0, 0);
        for (int n = 0; n < 4; n++) {
            p.open(0);
            p.open(1);
            if (first + n != i) {
                p.lay(k, first + n, n == 3 ? 1 : 0);
            }
        }
        s.append(' ').append(p.read(k, lane, first, 1));
        s.append(Check.show(p, 0)).append(Check.show(p, 1));
    }
}
