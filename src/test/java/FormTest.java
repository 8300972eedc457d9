import java.util.ArrayList;
import java.util.Collections;
import java.util.List;
import java.util.Random;

/**
 * Texts whose blocks tell beforehand what must be found: by any mixing the same is found; A and B in each
 * other's place, flipped and shifted it is found where it must be; two forms are alike just when their blocks are.
 */
public final class FormTest {
    private static final int[] PRIMES = {2, 3, 5, 7};
    private static final Check CHECK = new Check("FormTest");

    /** What a list of blocks tells: indices rising, lengths falling. */
    private static final class Form {
        final int prime;
        int rows;
        int columns;
        final StringBuilder text = new StringBuilder();
        final List<Integer> cols = new ArrayList<>();
        final List<Integer> rowIndices = new ArrayList<>();
        final List<List<Integer>> lengths = new ArrayList<>();

        Form(int prime) {
            this.prime = prime;
            text.append("prime ").append(prime).append(';');
            for (int x = 0; x <= prime; x++) {
                lengths.add(new ArrayList<>());
            }
        }

        boolean fits(int m, int n) {
            return rows + m <= 4 && columns + n <= 4;
        }

        void add(int kind, int x, int size) {
            int e = kind < 2 ? size - 1 : size;
            int m = e + (kind == 1 ? 1 : 0);
            int n = e + (kind == 0 ? 1 : 0);
            if (!fits(m, n)) {
                return;
            }
            rows += m;
            columns += n;
            switch (kind) {
                case 0:
                    text.append("col ").append(e).append(';');
                    cols.add(e);
                    break;
                case 1:
                    text.append("row ").append(e).append(';');
                    rowIndices.add(e);
                    break;
                case 2:
                    text.append("inf ").append(e).append(';');
                    lengths.get(prime).add(e);
                    break;
                default:
                    text.append("at ").append(x).append(' ').append(e).append(';');
                    lengths.get(x).add(e);
                    break;
            }
            Collections.sort(cols);
            Collections.sort(rowIndices);
            for (List<Integer> at : lengths) {
                at.sort(Collections.reverseOrder());
            }
        }

        String all() {
            return prime + " " + rows + " " + columns + " " + cols + " " + rowIndices + " " + lengths;
        }
    }

    private static Form byChance(Random random) {
        Form form = new Form(PRIMES[random.nextInt(4)]);
        for (int n = random.nextInt(6); n > 0; n--) {
            form.add(random.nextInt(4), random.nextInt(form.prime), 1 + random.nextInt(random.nextBoolean() ? 2 : 4));
        }
        return form;
    }

    /** All that an object tells of its form, as Form.all tells it. */
    private static String found(PencilForms p) {
        List<Integer> cols = new ArrayList<>();
        for (int i = 0; p.col(i) >= 0; i++) {
            cols.add(p.col(i));
        }
        List<Integer> rows = new ArrayList<>();
        for (int i = 0; p.row(i) >= 0; i++) {
            rows.add(p.row(i));
        }
        List<List<Integer>> lengths = new ArrayList<>();
        for (int x = 0; x <= p.rule(2); x++) {
            List<Integer> at = new ArrayList<>();
            for (int i = 0; p.length(x, i) >= 0; i++) {
                at.add(p.length(x, i));
            }
            lengths.add(at);
        }
        return p.rule(2) + " " + p.rule(0) + " " + p.rule(1) + " " + cols + " " + rows + " " + lengths;
    }

    private static void same(String what, String got, String want) {
        CHECK.that(what + ": " + got + ", due is " + want, got.equals(want));
    }

    private static void mixWell(PencilForms p, Random random) {
        p.scramble(random.nextInt(), 100);
        for (int n = 0; n < 8; n++) {
            p.swap(random.nextInt(2), random.nextInt(4), random.nextInt(4));
            p.times(random.nextInt(2), random.nextInt(4), 1 + random.nextInt(6));
        }
        p.scramble(random.nextInt(), 60);
    }

    /** The same blocks where turn(what) brings them: x to 1 by x, rows for columns, x to x less 1. */
    private static Form turned(Form form, int what) {
        Form out = new Form(form.prime);
        out.rows = what == 1 ? form.columns : form.rows;
        out.columns = what == 1 ? form.rows : form.columns;
        out.cols.addAll(what == 1 ? form.rowIndices : form.cols);
        out.rowIndices.addAll(what == 1 ? form.cols : form.rowIndices);
        for (int x = 0; x <= form.prime; x++) {
            int to = what == 0 ? inverse(x, form.prime) : what == 1 || x == form.prime ? x : (x + form.prime - 1) % form.prime;
            out.lengths.get(to).addAll(form.lengths.get(x));
        }
        return out;
    }

    private static int inverse(int x, int prime) {
        if (x == 0 || x == prime) {
            return prime - x;
        }
        int y = 1;
        while (x * y % prime != 1) {
            y++;
        }
        return y;
    }

    private static void formIsFound(Form form, Random random) {
        PencilForms p = Check.told(form.text.toString());
        same(form.text + " as told", found(p), form.all());
        mixWell(p, random);
        same(form.text + " mixed", found(p), form.all());
        int beyond = 0;
        int within = 0;
        for (int x = 0; x <= form.prime; x++) {
            for (int length : form.lengths.get(x)) {
                beyond += x == form.prime ? length : 0;
                within += x == form.prime ? 0 : length;
            }
        }
        int[] rules = {form.rows, form.columns, form.prime, form.cols.size(), form.rowIndices.size(), beyond, within, 0};
        for (int w = 0; w < rules.length; w++) {
            CHECK.due(form.text + " mixed, rule(" + w + ")", p.rule(w), rules[w]);
        }
        for (int what = 0; what < 3; what++) {
            form = turned(form, what);
            CHECK.due("turn(" + what + ")", p.turn(what), 10 * form.rows + form.columns);
            same("behind turn(" + what + ")", found(p), form.all());
        }
    }

    /** Brings one object's tables into another, place by place. */
    private static void bring(PencilForms from, PencilForms to) {
        to.cut(0, 0);
        while (to.rule(0) < from.rule(0)) {
            to.open(0);
        }
        while (to.rule(1) < from.rule(1)) {
            to.open(1);
        }
        for (int t = 0; t < 2; t++) {
            for (int i = 0; i < from.rule(0); i++) {
                for (int j = 0; j < from.rule(1); j++) {
                    to.set(t, i, j, from.cell(t, i, j));
                }
            }
        }
    }

    private static int compare(Form one, Form other, Random random) {
        PencilForms p = Check.told(one.text.toString());
        mixWell(p, random);
        p.keep(0);
        PencilForms q = Check.told(other.text.toString());
        mixWell(q, random);
        bring(q, p);
        int want = one.all().equals(other.all()) ? 1 : 0;
        CHECK.due(one.text + " alike " + other.text, p.alike(0), want);
        p.back(0);
        same(one.text + " brought back", found(p), one.all());
        return want;
    }

    /** Beneath a companion table of a polynomial without roots there is REST and nothing else. */
    private static void rest() {
        // modulo PRIME: x x x less (c2 x x, c1 x, c0) has no root, told as {PRIME, c0, c1, c2}
        int[][] cubes = {{2, 1, 1, 0}, {3, 1, 1, 0}, {5, 4, 4, 0}, {7, 2, 0, 0}};
        for (int[] c : cubes) {
            PencilForms p = Check.told("prime " + c[0] + ";col 0;inf 3;");
            for (int i = 0; i < 3; i++) {
                for (int j = 0; j < 3; j++) {
                    p.set(0, i, j + 1, i == j + 1 ? 1 : j == 2 ? c[1 + i] : 0);
                    p.set(1, i, j + 1, i == j ? 1 : 0);
                }
            }
            p.scramble(c[0], 90);
            CHECK.due("rest modulo " + c[0], p.rule(7), 3);
            CHECK.due("its COL indices", p.rule(3), 1);
            CHECK.due("its lengths", p.rule(5) + p.rule(6), 0);
        }
    }

    public static void main(String[] args) {
        Random random = new Random(20261118);
        for (int n = 0; n < 1500; n++) {
            formIsFound(byChance(random), random);
        }
        int alike = 0;
        List<Form> forms = new ArrayList<>();
        for (int n = 0; n < 300; n++) {
            forms.add(byChance(random));
        }
        for (Form one : forms) {
            for (Form other : forms) {
                if (one.prime == other.prime && one.rows == other.rows && one.columns == other.columns) {
                    alike += compare(one, other, random);
                }
            }
        }
        CHECK.that("some were alike beside themselves", alike > forms.size());
        rest();
        CHECK.finish();
    }
}
