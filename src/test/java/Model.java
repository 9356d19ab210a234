import java.math.BigInteger;
import java.util.ArrayList;
import java.util.Collections;
import java.util.List;
import java.util.TreeMap;
import java.util.TreeSet;
import java.util.function.ToIntFunction;
import java.util.regex.Matcher;
import java.util.regex.Pattern;

/**
 * What the document says, once more, without a thought for room or speed and by other ways than the
 * class goes: trees are objects, found by growing leaves and then sorted; cuts are lists; sums go
 * through BigInteger; each state is a copy. ModelRuns holds the class against it.
 */
final class Model {
    private static final int BAD = -1, STATE = -2, FULL = -3, NONE = -9;
    private static final long NEVER = -9000000000000000000L;

    /** A tree, its children in their row. */
    static final class Tree implements Comparable<Tree> {
        final List<Tree> children;

        Tree(List<Tree> anyOrder) {
            children = new ArrayList<>(anyOrder);
            children.sort(Collections.reverseOrder());
        }

        int nodes() {
            return 1 + children.stream().mapToInt(Tree::nodes).sum();
        }

        int density() {
            return nodes() * product(Tree::density);
        }

        int symmetry() {
            TreeMap<Tree, Integer> times = new TreeMap<>();
            children.forEach(c -> times.merge(c, 1, Integer::sum));
            return product(Tree::symmetry)
                    * times.values().stream().reduce(1, (x, m) -> x * factorial(m));
        }

        int height() {
            return children.stream().mapToInt(c -> 1 + c.height()).max().orElse(0);
        }

        private int product(ToIntFunction<Tree> of) {
            return children.stream().mapToInt(of).reduce(1, (x, y) -> x * y);
        }

        @Override
        public int compareTo(Tree other) {
            if (nodes() != other.nodes()) {
                return Integer.compare(nodes(), other.nodes());
            }
            for (int i = 0; i < Math.min(children.size(), other.children.size()); i++) {
                int c = children.get(i).compareTo(other.children.get(i));
                if (c != 0) {
                    return c;
                }
            }
            return 0;
        }
    }

    record Cut(List<Tree> forest, Tree left) { }

    static final class State {
        int stages = 1;
        int[][] a = new int[4][4];
        int[] b = new int[4];
        long[][] registers = new long[6][17];

        State copy() {
            State s = new State();
            s.stages = stages;
            s.b = b.clone();
            for (int i = 0; i < 4; i++) {
                s.a[i] = a[i].clone();
            }
            for (int r = 0; r < 6; r++) {
                s.registers[r] = registers[r].clone();
            }
            return s;
        }
    }

    record Sight(int tree, long number) { }

    static final List<Tree> TREES = growAll();

    private State now = new State();
    private final ArrayList<State> past = new ArrayList<>();
    private final State[] images = new State[2];
    private final ArrayList<Sight> seen = new ArrayList<>();
    private String text = "";

    private static List<Tree> growAll() {
        TreeSet<Tree> all = new TreeSet<>();
        all.add(new Tree(List.of()));
        for (int i = 0; i < 4; i++) {
            for (Tree t : List.copyOf(all)) {
                all.addAll(withOneLeafMore(t));
            }
        }
        return List.copyOf(all);
    }

    private static List<Tree> withOneLeafMore(Tree t) {
        List<Tree> found = new ArrayList<>();
        found.add(plus(t, new Tree(List.of())));
        for (int i = 0; i < t.children.size(); i++) {
            for (Tree grown : withOneLeafMore(t.children.get(i))) {
                List<Tree> row = new ArrayList<>(t.children);
                row.set(i, grown);
                found.add(new Tree(row));
            }
        }
        return found;
    }

    private static Tree plus(Tree u, Tree v) {
        List<Tree> row = new ArrayList<>(u.children);
        row.add(v);
        return new Tree(row);
    }

    private static int numberOf(Tree t) {
        return Collections.binarySearch(TREES, t);
    }

    private static int factorial(int n) {
        return n < 2 ? 1 : n * factorial(n - 1);
    }

    static List<Cut> cutsOf(Tree t) {
        return cutsOfRow(t.children, 0, List.of(), List.of());
    }

    private static List<Cut> cutsOfRow(List<Tree> row, int at, List<Tree> forest, List<Tree> left) {
        if (at == row.size()) {
            return List.of(new Cut(forest, new Tree(left)));
        }
        List<Cut> found = new ArrayList<>();
        found.addAll(cutsOfRow(row, at + 1, joined(forest, List.of(row.get(at))), left));
        for (Cut own : cutsOf(row.get(at))) {
            found.addAll(cutsOfRow(row, at + 1, joined(forest, own.forest), joined(left, List.of(own.left))));
        }
        return found;
    }

    private static List<Tree> joined(List<Tree> x, List<Tree> y) {
        List<Tree> both = new ArrayList<>(x);
        both.addAll(y);
        return both;
    }

    // ---- characters

    private static long flow(int t) {
        Tree tree = TREES.get(t);
        return BigInteger.valueOf(60).pow(tree.nodes()).divide(BigInteger.valueOf(tree.density())).longValueExact();
    }

    private static BigInteger of(long[] p, List<Tree> forest) {
        return forest.stream().map(c -> BigInteger.valueOf(p[numberOf(c)])).reduce(BigInteger.ONE, BigInteger::multiply);
    }

    private static long product(long[] p, long[] q, int t) {
        BigInteger sum = BigInteger.valueOf(p[t]);
        for (Cut c : cutsOf(TREES.get(t))) {
            sum = sum.add(of(p, c.forest).multiply(BigInteger.valueOf(q[numberOf(c.left)])));
        }
        return sum.longValue();
    }

    private static long[] inverse(long[] p) {
        long[] q = new long[17];
        for (int t = 0; t < 17; t++) {
            // What is missing at t with 0 there is just what q of t must bring.
            q[t] = -product(p, q, t);
        }
        return q;
    }

    private static long[] stretched(long[] p, int h) {
        long[] q = new long[17];
        for (int t = 0; t < 17; t++) {
            q[t] = BigInteger.valueOf(h).pow(TREES.get(t).nodes()).multiply(BigInteger.valueOf(p[t])).longValue();
        }
        return q;
    }

    private BigInteger w(int j, Tree t) {
        BigInteger product = BigInteger.ONE;
        for (Tree c : t.children) {
            BigInteger sum = BigInteger.ZERO;
            for (int k = 0; k < now.stages; k++) {
                sum = sum.add(BigInteger.valueOf(now.a[j][k]).multiply(w(k, c)));
            }
            product = product.multiply(sum);
        }
        return product;
    }

    private long weight(int t) {
        BigInteger sum = BigInteger.ZERO;
        for (int j = 0; j < now.stages; j++) {
            sum = sum.add(BigInteger.valueOf(now.b[j]).multiply(w(j, TREES.get(t))));
        }
        return sum.longValue();
    }

    private static int alike(long[] p, long[] q) {
        int n = 0;
        while (n < 5 && alikeAt(p, q, n + 1)) {
            n++;
        }
        return n;
    }

    private static boolean alikeAt(long[] p, long[] q, int nodes) {
        for (int t = 0; t < 17; t++) {
            if (TREES.get(t).nodes() == nodes && p[t] != q[t]) {
                return false;
            }
        }
        return true;
    }

    private static long[] flow() {
        long[] q = new long[17];
        for (int t = 0; t < 17; t++) {
            q[t] = flow(t);
        }
        return q;
    }

    // ---- texts

    private record Token(String word, int place) { }

    private static List<Token> tokens(String text) {
        List<Token> found = new ArrayList<>();
        Matcher m = Pattern.compile("[0-9]+|[^ ]", Pattern.DOTALL).matcher(text);
        while (m.find()) {
            found.add(new Token(m.group(), m.start()));
        }
        return found;
    }

    /** The METHOD into made; how many ITEMS, or -10 less the FAULT. */
    private static int read(String text, State made) {
        String awaited = "";
        String item = "";
        List<Integer> numbers = new ArrayList<>();
        int items = 0;
        int sign = 1;
        for (Token token : tokens(text)) {
            String w = token.word;
            int fault = -10 - token.place;
            if (awaited.isEmpty()) {
                item = w;
                numbers.clear();
                sign = 1;
                switch (w) {
                    case "s" -> awaited = "N;";
                    case "a" -> awaited = "IIV;";
                    case "b" -> awaited = "IV;";
                    default -> { return fault; }
                }
                if (w.equals("s") && items > 0) {
                    return fault;
                }
                continue;
            }
            char due = awaited.charAt(0);
            if (due == 'V' && w.equals("-")) {
                sign = -1;
                awaited = "U" + awaited.substring(1);
                continue;
            }
            awaited = awaited.substring(1);
            if (due == ';') {
                if (!w.equals(";")) {
                    return fault;
                }
                items++;
                finish(item, numbers, made);
                continue;
            }
            if (!w.matches("0|[1-9][0-9]{0,2}")) {
                return fault;
            }
            int n = Integer.parseInt(w);
            boolean fits = switch (due) {
                case 'N' -> n >= 1 && n <= 4;
                case 'I' -> n < made.stages;
                default -> n <= 600;
            };
            if (!fits) {
                return fault;
            }
            numbers.add(due == 'V' || due == 'U' ? sign * n : n);
        }
        return awaited.isEmpty() ? items : -10 - text.length();
    }

    private static void finish(String item, List<Integer> n, State made) {
        switch (item) {
            case "s" -> made.stages = n.get(0);
            case "a" -> made.a[n.get(0)][n.get(1)] = n.get(2);
            default -> made.b[n.get(0)] = n.get(1);
        }
    }

    /** A text of a TREE by what is left to stand at each letter, as the document lists it. */
    private static int readTree(String text) {
        String told = "";
        for (int i = 0; i < text.length(); i++) {
            char c = text.charAt(i);
            if (c == ' ') {
                continue;
            }
            long opened = told.chars().filter(x -> x == '(').count();
            long closed = told.length() - opened;
            boolean stands = told.isEmpty() ? c == '('
                    : opened > closed && (c == ')' || c == '(' && opened < 5);
            if (!stands) {
                return -10 - i;
            }
            told += c;
        }
        long opened = told.chars().filter(x -> x == '(').count();
        if (told.isEmpty() || 2 * opened != told.length()) {
            return -10 - text.length();
        }
        return numberOf(parse(told));
    }

    private static Tree parse(String whole) {
        List<Tree> row = new ArrayList<>();
        int depth = 0;
        int from = 1;
        for (int i = 1; i < whole.length() - 1; i++) {
            depth += whole.charAt(i) == '(' ? 1 : -1;
            if (depth == 0) {
                row.add(parse(whole.substring(from, i + 1)));
                from = i + 1;
            }
        }
        return new Tree(row);
    }

    // ---- the calls

    private static boolean in(int x, int from, int to) {
        return from <= x && x <= to;
    }

    private static boolean reg(int... rs) {
        for (int r : rs) {
            if (!in(r, 0, 5)) {
                return false;
            }
        }
        return true;
    }

    private static boolean isTree(int t) {
        return in(t, 0, 16);
    }

    private void done() {
        past.add(now.copy());
        if (past.size() > 6) {
            past.remove(0);
        }
    }

    private int becomes(int r, long[] q) {
        done();
        now.registers[r] = q;
        return alike(q, flow());
    }

    int type(int letter) {
        if (!in(letter, 0, 255)) {
            return BAD;
        }
        if (text.length() == 160) {
            return FULL;
        }
        text += (char) letter;
        return text.length();
    }

    int clear() {
        int had = text.length();
        text = "";
        return had;
    }

    int tree() {
        int answer = readTree(text);
        if (answer >= 0) {
            text = "";
        }
        return answer;
    }

    int method() {
        State made = new State();
        int answer = read(text, made);
        if (answer >= 0) {
            done();
            made.registers = now.copy().registers;
            now = made;
            text = "";
        }
        return answer;
    }

    private boolean hasNumber(int i, int j) {
        return in(i, 0, now.stages - 1) && in(j, -1, now.stages - 1);
    }

    int tells(int i, int j, int v) {
        if (!hasNumber(i, j) || !in(v, -600, 600)) {
            return -1001;
        }
        int was = number(i, j);
        if (was == v) {
            return -1002;
        }
        done();
        if (j < 0) {
            now.b[i] = v;
        } else {
            now.a[i][j] = v;
        }
        return was;
    }

    int loads(int r) {
        if (!reg(r)) {
            return BAD;
        }
        long[] q = new long[17];
        for (int t = 0; t < 17; t++) {
            q[t] = weight(t);
        }
        return becomes(r, q);
    }

    int flows(int r) {
        if (!reg(r)) {
            return BAD;
        }
        if (alike(now.registers[r], flow()) == 5) {
            return STATE;
        }
        becomes(r, flow());
        return 1;
    }

    int composes(int r, int p, int q) {
        if (!reg(r, p, q)) {
            return BAD;
        }
        long[] made = new long[17];
        for (int t = 0; t < 17; t++) {
            made[t] = product(now.registers[p], now.registers[q], t);
        }
        return becomes(r, made);
    }

    int inverts(int r, int p) {
        return reg(r, p) ? becomes(r, inverse(now.registers[p])) : BAD;
    }

    int stretches(int r, int p, int h) {
        return reg(r, p) && in(h, -3, 3) ? becomes(r, stretched(now.registers[p], h)) : BAD;
    }

    int reverses(int r, int p) {
        if (!reg(r, p)) {
            return BAD;
        }
        long[] was = now.registers[p].clone();
        becomes(r, stretched(inverse(was), -1));
        return alike(now.registers[r], was);
    }

    int puts(int r, int t, int v) {
        if (!reg(r) || !isTree(t)) {
            return BAD;
        }
        if (now.registers[r][t] == v) {
            return STATE;
        }
        done();
        now.registers[r][t] = v;
        return 1;
    }

    int undo() {
        if (past.isEmpty()) {
            return STATE;
        }
        now = past.remove(past.size() - 1);
        return past.size();
    }

    long value(int r, int t) {
        return reg(r) && isTree(t) ? now.registers[r][t] : NEVER;
    }

    int number(int i, int j) {
        return !hasNumber(i, j) ? -1001 : j < 0 ? now.b[i] : now.a[i][j];
    }

    int about(int t, int what) {
        if (!isTree(t)) {
            return BAD;
        }
        Tree tree = TREES.get(t);
        return switch (what) {
            case 0 -> tree.nodes();
            case 1 -> tree.children.size();
            case 2 -> tree.density();
            case 3 -> tree.symmetry();
            case 4 -> tree.height();
            case 5 -> cutsOf(tree).size();
            case 6 -> factorial(tree.nodes()) / tree.density();
            default -> BAD;
        };
    }

    int child(int t, int k) {
        if (!isTree(t) || k < 0) {
            return BAD;
        }
        List<Tree> row = TREES.get(t).children;
        return k < row.size() ? numberOf(row.get(k)) : NONE;
    }

    int cut(int t, int k, int i) {
        if (!isTree(t) || k < 0 || i < -1) {
            return BAD;
        }
        List<Cut> all = cutsOf(TREES.get(t));
        if (k >= all.size()) {
            return NONE;
        }
        Cut c = all.get(k);
        return i < 0 ? numberOf(c.left) : i < c.forest.size() ? numberOf(c.forest.get(i)) : NONE;
    }

    int grafted(int u, int v) {
        if (!isTree(u) || !isTree(v)) {
            return BAD;
        }
        Tree both = plus(TREES.get(u), TREES.get(v));
        return both.nodes() > 5 ? NONE : numberOf(both);
    }

    int leaves(int t, int left) {
        if (!isTree(t) || !isTree(left)) {
            return BAD;
        }
        return (int) cutsOf(TREES.get(t)).stream().filter(c -> numberOf(c.left) == left).count();
    }

    int order(int r, int what) {
        if (!reg(r) || !in(what, 0, 2)) {
            return BAD;
        }
        long[] p = now.registers[r];
        if (what == 0) {
            return alike(p, flow());
        }
        if (what == 1) {
            for (int t = 0; t < 17; t++) {
                if (p[t] != flow(t)) {
                    return t;
                }
            }
            return NONE;
        }
        for (int uv = 0; uv < 17 * 17; uv++) {
            int u = uv / 17;
            int v = uv % 17;
            if (grafted(u, v) != NONE && p[grafted(u, v)] + p[grafted(v, u)] != p[u] * p[v]) {
                return uv;
            }
        }
        return NONE;
    }

    int like(int p, int q) {
        return reg(p, q) ? alike(now.registers[p], now.registers[q]) : BAD;
    }

    int sees(int t, long v) {
        if (!isTree(t)) {
            return BAD;
        }
        if (seen.size() == 6) {
            return FULL;
        }
        seen.add(new Sight(t, v));
        return seen.size();
    }

    int forget() {
        int had = seen.size();
        seen.clear();
        return had;
    }

    int which() {
        int bits = 0;
        for (int r = 0; r < 6; r++) {
            long[] p = now.registers[r];
            bits += seen.stream().allMatch(s -> p[s.tree] == s.number) ? 1 << r : 0;
        }
        return bits;
    }

    int keep(int image) {
        if (!in(image, 0, 1)) {
            return BAD;
        }
        images[image] = now.copy();
        return now.stages;
    }

    int back(int image) {
        if (!in(image, 0, 1)) {
            return BAD;
        }
        if (images[image] == null) {
            return STATE;
        }
        now = images[image].copy();
        past.clear();
        return now.stages;
    }

    int count(int what) {
        return switch (what) {
            case 0 -> now.stages;
            case 1 -> seen.size();
            case 2 -> text.length();
            case 3 -> past.size();
            default -> BAD;
        };
    }
}
