import java.util.Random;

/**
 * Holds the class against the Model: all that can be asked of the trees, then runs of calls drawn
 * with fixed seeds, with arguments at, within and beyond the edges, and texts with and without faults.
 */
public final class ModelRuns {
    private static final int CALLS = 512;
    private static final int RUNS = Integer.getInteger("runs", 300);
    private static final int TEXTS = Integer.getInteger("texts", 20000);
    private static final int[] FAR = {Integer.MIN_VALUE, -1000, -2, -1, 17, 100, Integer.MAX_VALUE};
    private static final long[] WIDE = {Long.MIN_VALUE, Long.MAX_VALUE, 1L << 40, -9000000000000000000L, 0};
    private static final String[] METHODS = {
        "s 4; a 1 0 30; a 2 1 30; a 3 2 60; b 0 10; b 1 20; b 2 20; b 3 10;",
        "a 0 0 30; b 0 60;",
        "s2;a1 0 30;b1 60;",
        "s 2; a 1 0 60; b 0 30; b 1 30;",
        "s3;a1 0 30;a2 0-60;a2 1 120;b0 10;b1 40;b2 10;",
        "s 2; a 0 0 15; a 1 0 30; a 1 1 15; b 0 30; b 1 30;",
        "s 2; b 0 600; b 1 - 600; a 0 0 600; a 0 1 600; a 1 0 -600; a 1 1 600;",
        ""};
    private static final String METHOD_LETTERS = "sab-;0123456789   ;;  xS\t";

    private static final Due due = new Due();

    public static void main(String[] args) {
        askAllOfTrees();
        for (int seed = 0; seed < TEXTS; seed++) {
            new ModelRuns(-1 - seed).readOneText();
        }
        for (int seed = 0; seed < RUNS; seed++) {
            new ModelRuns(seed).run();
        }
        due.end();
    }

    private static void askAllOfTrees() {
        Fresh fresh = new Fresh();
        Model m = new Model();
        due.is("how many TREES the Model finds", Model.TREES.size(), 17);
        for (int t = -2; t < 19; t++) {
            for (int k = -3; k < 19; k++) {
                String of = "(" + t + ", " + k + ")";
                due.is("about" + of, fresh.x().about(t, k), m.about(t, k));
                due.is("child" + of, fresh.x().child(t, k), m.child(t, k));
                due.is("grafted" + of, fresh.x().grafted(t, k), m.grafted(t, k));
                due.is("leaves" + of, fresh.x().leaves(t, k), m.leaves(t, k));
                for (int i = -3; i < 6; i++) {
                    due.is("cut(" + t + ", " + k + ", " + i + ")", fresh.x().cut(t, k, i), m.cut(t, k, i));
                }
            }
        }
    }

    private final int seed;
    private final Random random;
    private final RootedCuts x = new RootedCuts();
    private final Model m = new Model();
    private int calls = 0;

    private ModelRuns(int seed) {
        this.seed = seed;
        this.random = new Random(seed);
    }

    private void run() {
        while (calls < CALLS - 170) {
            step(random.nextInt(30));
        }
        compareAll();
    }

    private void readOneText() {
        boolean method = random.nextInt(4) > 0;
        String text = method ? methodText() : treeText();
        for (int times = random.nextInt(3); times > 0; times--) {
            text = spoilt(new StringBuilder(text), method ? METHOD_LETTERS : "()() x");
        }
        if (text.length() < 150) {
            sayAndRead(text, method);
            compareMethod();
        }
    }

    private void same(String call, long got, long want) {
        calls++;
        due.is("seed " + seed + ", call " + calls + ": " + call, got, want);
    }

    /** Mostly 0 to most, now and then beyond it. */
    private int upTo(int most) {
        int kind = random.nextInt(40);
        if (kind == 0) {
            return FAR[random.nextInt(FAR.length)];
        }
        if (kind == 1) {
            return most + 1;
        }
        return random.nextInt(most + 1);
    }

    private void step(int kind) {
        int r = upTo(5);
        int p = upTo(5);
        int q = upTo(5);
        int t = upTo(16);
        switch (kind) {
            case 0, 1 -> sayAndRead(methodText(), true);
            case 2 -> sayAndRead(treeText(), false);
            case 3 -> tells();
            case 4, 5 -> same("loads(" + r + ")", x.loads(r), m.loads(r));
            case 6 -> same("flows(" + r + ")", x.flows(r), m.flows(r));
            case 7, 8, 9 -> same("composes(" + r + ", " + p + ", " + q + ")", x.composes(r, p, q), m.composes(r, p, q));
            case 10, 11 -> same("inverts(" + r + ", " + p + ")", x.inverts(r, p), m.inverts(r, p));
            case 12, 13 -> {
                int h = upTo(6) - 3;
                same("stretches(" + r + ", " + p + ", " + h + ")", x.stretches(r, p, h), m.stretches(r, p, h));
            }
            case 14, 15 -> same("reverses(" + r + ", " + p + ")", x.reverses(r, p), m.reverses(r, p));
            case 16, 17 -> {
                int v = random.nextInt(3) == 0 ? (int) m.value(r, t) : random.nextInt();
                same("puts(" + r + ", " + t + ", " + v + ")", x.puts(r, t, v), m.puts(r, t, v));
            }
            case 18, 19, 20 -> same("undo()", x.undo(), m.undo());
            case 21 -> same("value(" + r + ", " + t + ")", x.value(r, t), m.value(r, t));
            case 22 -> {
                int i = upTo(3);
                int j = upTo(4) - 1;
                same("number(" + i + ", " + j + ")", x.number(i, j), m.number(i, j));
            }
            case 23, 24 -> {
                int what = upTo(2);
                same("order(" + r + ", " + what + ")", x.order(r, what), m.order(r, what));
            }
            case 25 -> same("like(" + p + ", " + q + ")", x.like(p, q), m.like(p, q));
            case 26 -> {
                long v = random.nextInt(4) == 0 ? WIDE[random.nextInt(WIDE.length)] : m.value(r, t);
                same("sees(" + t + ", " + v + ")", x.sees(t, v), m.sees(t, v));
                same("which()", x.which(), m.which());
            }
            case 27 -> {
                if (random.nextInt(3) == 0) {
                    same("forget()", x.forget(), m.forget());
                }
                same("which()", x.which(), m.which());
            }
            case 28 -> {
                int image = upTo(1);
                if (random.nextInt(3) == 0) {
                    same("back(" + image + ")", x.back(image), m.back(image));
                } else {
                    same("keep(" + image + ")", x.keep(image), m.keep(image));
                }
            }
            default -> {
                int what = upTo(3);
                same("count(" + what + ")", x.count(what), m.count(what));
            }
        }
    }

    private void tells() {
        int i = upTo(3);
        int j = upTo(4) - 1;
        int v = random.nextInt(5) == 0 ? m.number(i, j) : upTo(1200) - 600;
        same("tells(" + i + ", " + j + ", " + v + ")", x.tells(i, j, v), m.tells(i, j, v));
    }

    private void sayAndRead(String text, boolean method) {
        if (random.nextInt(4) > 0) {
            same("clear()", x.clear(), m.clear());
        }
        for (int i = 0; i < text.length() && calls < CALLS - 160; i++) {
            same("type(" + (int) text.charAt(i) + ")", x.type(text.charAt(i)), m.type(text.charAt(i)));
        }
        int letter = upTo(255);
        if (letter < 0 || letter > 255) {
            same("type(" + letter + ")", x.type(letter), m.type(letter));
        }
        if (method) {
            same("method() of " + text, x.method(), m.method());
        } else {
            same("tree() of " + text, x.tree(), m.tree());
        }
        same("count(2)", x.count(2), m.count(2));
    }

    private String methodText() {
        if (random.nextInt(3) == 0) {
            return METHODS[random.nextInt(METHODS.length)];
        }
        StringBuilder text = new StringBuilder();
        int stages = 1;
        if (random.nextInt(4) > 0) {
            stages = 1 + random.nextInt(4);
            text.append('s').append(blanks()).append(stages).append(blanks()).append(';');
        }
        int items = random.nextInt(5);
        for (int i = 0; i < items; i++) {
            text.append(blanks()).append(random.nextBoolean() ? "a" + random.nextInt(stages) + " " : "b");
            text.append(blanks()).append(random.nextInt(stages)).append(blanks());
            text.append(random.nextBoolean() ? "-" : " ").append(blanks());
            text.append(random.nextInt(8) == 0 ? 590 + random.nextInt(20) : random.nextInt(61));
            text.append(blanks()).append(";");
        }
        return random.nextBoolean() ? text.toString() : spoilt(text, METHOD_LETTERS);
    }

    private String blanks() {
        return " ".repeat(random.nextInt(4) / 3);
    }

    private String treeText() {
        StringBuilder text = new StringBuilder();
        int open = 0;
        int left = 1 + random.nextInt(5);
        while (left > 0 || open > 0) {
            text.append(blanks());
            if (left > 0 && (open == 0 || random.nextBoolean())) {
                text.append('(');
                open++;
                left--;
            } else if (open > 1 || left == 0 || random.nextInt(20) == 0) {
                text.append(')');
                open--;
            }
        }
        text.append(blanks());
        return random.nextInt(3) > 0 ? text.toString() : spoilt(text, "()() x");
    }

    private String spoilt(StringBuilder text, String letters) {
        char letter = letters.charAt(random.nextInt(letters.length()));
        int at = random.nextInt(text.length() + 1);
        int kind = random.nextInt(4);
        if (kind == 0 || at == text.length()) {
            text.insert(at, letter);
        } else if (kind == 1) {
            text.setCharAt(at, letter);
        } else if (kind == 2) {
            text.deleteCharAt(at);
        } else {
            text.setLength(at);
        }
        return text.toString();
    }

    private void compareAll() {
        compareMethod();
        for (int r = 0; r < 6; r++) {
            for (int t = 0; t < 17; t++) {
                same("value(" + r + ", " + t + ")", x.value(r, t), m.value(r, t));
            }
        }
    }

    private void compareMethod() {
        for (int what = 0; what < 4; what++) {
            same("count(" + what + ")", x.count(what), m.count(what));
        }
        for (int i = 0; i < 4; i++) {
            for (int j = -1; j < 4; j++) {
                same("number(" + i + ", " + j + ")", x.number(i, j), m.number(i, j));
            }
        }
    }
}
