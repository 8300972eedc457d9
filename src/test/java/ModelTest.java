import java.util.Random;

/** Long runs of calls by fixed seeds, every answer against the Model's, with right and wrong arguments. */
public final class ModelTest {
    private static final String[] NAMES = {
        "feed", "end", "text", "fault", "rule", "cell", "rank", "nulls", "col", "row", "chains", "length", "steps", "go",
        "set", "open", "cut", "mix", "times", "swap", "scramble", "turn", "keep", "back", "alike", "sheet", "lay", "read",
        "torn", "count"};
    private static final int[] ARITIES = {
        1, 1, 0, 0, 1, 3, 1, 1, 1, 1, 2, 2, 2, 2,
        4, 1, 2, 4, 3, 3, 2, 1, 1, 1, 1, 3, 3, 4,
        0, 1};
    /** How often each is called by chance; text() comes with whole texts besides. */
    private static final int[] WEIGHTS = {
        3, 2, 1, 2, 4, 4, 4, 4, 3, 3, 5, 5, 5, 8,
        16, 5, 2, 5, 3, 3, 2, 3, 3, 2, 3, 3, 9, 9,
        3, 4};
    private static final int[] WILD = {
        Integer.MIN_VALUE, Integer.MIN_VALUE + 3, -1000, -5, -4, -3, -2, -1, 4, 5, 6, 7, 8, 9, 10, 11, 39, 40, 41, 100, 101, 127, 128,
        255, 1000, 32768, 65536, 1 << 30, Integer.MAX_VALUE - 3, Integer.MAX_VALUE};
    private static final String[] PIECES = {
        "prime", "col", "row", "inf", "at", ";", " ", "  ", "0", "1", "2", "3", "4", "5", "6", "7", "00", "07", "10", "100",
        "x", "A", "\t", "-", "ata", "co", "p", "prime 3;", "at 1 1;", "col 0;", "row 0;"};

    private static final Check CHECK = new Check("ModelTest");

    private final Random random;
    private final int run;
    private final PencilForms real = new PencilForms();
    private final Model model = new Model();
    private int calls;

    private ModelTest(int run) {
        this.run = run;
        random = new Random(run);
    }

    public static void main(String[] args) {
        for (int run = 0; run < 220 && CHECK.allRight(); run++) {
            new ModelTest(run).play();
        }
        CHECK.finish();
    }

    private void play() {
        while (calls < 512 && CHECK.allRight()) {
            if (random.nextInt(40) == 0) {
                type(random.nextInt(3) == 0 ? brokenText() : goodText());
            } else if (random.nextInt(60) == 0) {
                fillPlaces();
            } else if (random.nextInt(60) == 0) {
                fillSheet();
            } else {
                int which = byWeight();
                call(which, arguments(which));
            }
        }
    }

    private int byWeight() {
        int all = 0;
        for (int w : WEIGHTS) {
            all += w;
        }
        int left = random.nextInt(all);
        int which = 0;
        while (left >= WEIGHTS[which]) {
            left -= WEIGHTS[which];
            which++;
        }
        return which;
    }

    private int[] arguments(int which) {
        int[] a = new int[ARITIES[which]];
        for (int i = 0; i < a.length; i++) {
            a[i] = random.nextInt(25) == 0 ? WILD[random.nextInt(WILD.length)] : usual(which, i);
        }
        return a;
    }

    /** An argument that often fits: small for most, larger where the call takes larger ones. */
    private int usual(int which, int i) {
        int prime = model.rule(2);
        switch (NAMES[which]) {
            case "feed":
                return random.nextInt(128);
            case "end":
                return random.nextInt(12);
            case "rule":
                return random.nextInt(8);
            case "rank":
                return random.nextInt(prime + 2);
            case "chains":
            case "length":
                return i == 0 ? random.nextInt(prime + 2) : random.nextInt(5);
            case "go":
                return i == 0 ? column(prime) : random.nextInt(5);
            case "nulls":
            case "steps":
                return i == 0 ? random.nextInt(5) : random.nextInt(2);
            case "set":
                return i == 0 ? random.nextInt(2) : i == 3 ? random.nextInt(prime) : random.nextInt(4);
            case "mix":
            case "times":
                return i == 0 ? random.nextInt(2) : random.nextInt(4);
            case "cut":
                return 2 + random.nextInt(3);
            case "scramble":
                return i == 0 ? random.nextInt() : random.nextInt(102);
            case "turn":
                return random.nextInt(3);
            case "sheet":
                return i == 2 ? random.nextInt(41) : random.nextInt(3);
            case "lay":
                return i == 0 ? random.nextInt(4) : i == 1 ? random.nextInt(20) : random.nextInt(4) + 256 * (random.nextInt(4) / 3);
            case "read":
                return i == 2 ? random.nextInt(5) - random.nextInt(2) : i == 3 ? random.nextInt(5) : random.nextInt(3);
            case "count":
                return random.nextInt(6);
            default:
                return random.nextInt(i == 0 ? 2 : 4);
        }
    }

    private int column(int prime) {
        int v = 0;
        for (int j = random.nextInt(5); j > 0; j--) {
            v = 10 * v + random.nextInt(random.nextInt(20) == 0 ? 10 : prime);
        }
        return v;
    }

    private void type(String text) {
        call(1, new int[] {0});
        for (int i = 0; i < text.length(); i++) {
            call(0, new int[] {text.charAt(i)});
        }
        call(2, new int[] {});
        call(3, new int[] {});
    }

    private String goodText() {
        StringBuilder s = new StringBuilder();
        int prime = new int[] {2, 3, 5, 7}[random.nextInt(4)];
        if (random.nextInt(4) > 0) {
            s.append("prime ").append(prime).append(';');
        } else {
            prime = 7;
        }
        for (int i = random.nextInt(4); i > 0; i--) {
            int x = random.nextInt(40) == 0 ? 6 : random.nextInt(prime);
            switch (random.nextInt(4)) {
                case 0:
                    s.append("col ").append(random.nextInt(3)).append(" ;");
                    break;
                case 1:
                    s.append(" row").append(random.nextInt(3)).append(';');
                    break;
                case 2:
                    s.append("inf ").append(1 + random.nextInt(2)).append(';');
                    break;
                default:
                    s.append("at ").append(x).append(' ').append(1 + random.nextInt(2)).append("; ");
                    break;
            }
        }
        return s.toString();
    }

    private String brokenText() {
        if (random.nextInt(3) == 0) {
            StringBuilder s = new StringBuilder();
            for (int i = random.nextInt(9); i > 0; i--) {
                s.append(PIECES[random.nextInt(PIECES.length)]);
            }
            return s.toString();
        }
        StringBuilder s = new StringBuilder(goodText());
        int at = random.nextInt(s.length() + 1);
        if (random.nextInt(2) == 0 && at < s.length()) {
            s.deleteCharAt(at);
        } else {
            s.insert(at, PIECES[random.nextInt(PIECES.length)]);
        }
        return s.toString();
    }

    /** Tables of a chosen size filled by chance, often with few numbers that are not 0. */
    private void fillPlaces() {
        int opens = random.nextInt(5);
        for (int i = 0; i < opens; i++) {
            call(15, new int[] {random.nextInt(2)});
        }
        int sparse = 1 + random.nextInt(4);
        for (int t = 0; t < 2; t++) {
            for (int i = 0; i < model.rule(0); i++) {
                for (int j = 0; j < model.rule(1); j++) {
                    int v = random.nextInt(sparse) == 0 ? random.nextInt(model.rule(2)) : 0;
                    call(14, new int[] {t, i, j, v});
                }
            }
        }
        call(22, new int[] {random.nextInt(2)});
    }

    private void fillSheet() {
        int k = random.nextInt(4);
        int lane = random.nextInt(3);
        int n = random.nextInt(20);
        call(25, new int[] {k, lane, n});
        for (int c = 0; c < n; c++) {
            int most = c % 4 == 0 ? 2 : c % 4 == 3 ? model.rule(2) : Math.max(1, Math.min(model.rule(0), model.rule(1)));
            int v = random.nextInt(40) == 0 ? WILD[random.nextInt(WILD.length)] : random.nextInt(most);
            call(26, new int[] {k, c, v});
        }
        call(27, new int[] {k, random.nextInt(8) == 0 ? random.nextInt(3) : lane, random.nextInt(8) == 0 ? random.nextInt(5) : 0, random.nextInt(6)});
        call(28, new int[] {});
    }

    private void call(int which, int[] a) {
        calls++;
        StringBuilder told = new StringBuilder();
        told.append("run ").append(run).append(", call ").append(calls).append(": ").append(NAMES[which]);
        told.append(java.util.Arrays.toString(a));
        CHECK.due(told.toString(), askReal(which, a), askModel(which, a));
    }

    private int askReal(int which, int[] a) {
        switch (which) {
            case 0: return real.feed(a[0]);
            case 1: return real.end(a[0]);
            case 2: return real.text();
            case 3: return real.fault();
            case 4: return real.rule(a[0]);
            case 5: return real.cell(a[0], a[1], a[2]);
            case 6: return real.rank(a[0]);
            case 7: return real.nulls(a[0]);
            case 8: return real.col(a[0]);
            case 9: return real.row(a[0]);
            case 10: return real.chains(a[0], a[1]);
            case 11: return real.length(a[0], a[1]);
            case 12: return real.steps(a[0], a[1]);
            case 13: return real.go(a[0], a[1]);
            case 14: return real.set(a[0], a[1], a[2], a[3]);
            case 15: return real.open(a[0]);
            case 16: return real.cut(a[0], a[1]);
            case 17: return real.mix(a[0], a[1], a[2], a[3]);
            case 18: return real.times(a[0], a[1], a[2]);
            case 19: return real.swap(a[0], a[1], a[2]);
            case 20: return real.scramble(a[0], a[1]);
            case 21: return real.turn(a[0]);
            case 22: return real.keep(a[0]);
            case 23: return real.back(a[0]);
            case 24: return real.alike(a[0]);
            case 25: return real.sheet(a[0], a[1], a[2]);
            case 26: return real.lay(a[0], a[1], a[2]);
            case 27: return real.read(a[0], a[1], a[2], a[3]);
            case 28: return real.torn();
            default: return real.count(a[0]);
        }
    }

    private int askModel(int which, int[] a) {
        switch (which) {
            case 0: return model.feed(a[0]);
            case 1: return model.end(a[0]);
            case 2: return model.text();
            case 3: return model.fault();
            case 4: return model.rule(a[0]);
            case 5: return model.cell(a[0], a[1], a[2]);
            case 6: return model.rank(a[0]);
            case 7: return model.nulls(a[0]);
            case 8: return model.col(a[0]);
            case 9: return model.row(a[0]);
            case 10: return model.chains(a[0], a[1]);
            case 11: return model.length(a[0], a[1]);
            case 12: return model.steps(a[0], a[1]);
            case 13: return model.go(a[0], a[1]);
            case 14: return model.set(a[0], a[1], a[2], a[3]);
            case 15: return model.open(a[0]);
            case 16: return model.cut(a[0], a[1]);
            case 17: return model.mix(a[0], a[1], a[2], a[3]);
            case 18: return model.times(a[0], a[1], a[2]);
            case 19: return model.swap(a[0], a[1], a[2]);
            case 20: return model.scramble(a[0], a[1]);
            case 21: return model.turn(a[0]);
            case 22: return model.keep(a[0]);
            case 23: return model.back(a[0]);
            case 24: return model.alike(a[0]);
            case 25: return model.sheet(a[0], a[1], a[2]);
            case 26: return model.lay(a[0], a[1], a[2]);
            case 27: return model.read(a[0], a[1], a[2], a[3]);
            case 28: return model.torn();
            default: return model.count(a[0]);
        }
    }
}
