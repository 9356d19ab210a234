import java.util.Arrays;

/**
 * Trees with a root, cut and grafted, and the characters on them. The promises are told in the
 * project's document; words in capitals there are meant wherever they stand in capitals here.
 */
public final class RootedCuts {
    public static final int BAD = -1, STATE = -2, FULL = -3, NONE = -9;
    public static final long NEVER = -9000000000000000000L;

    /** Where -600 to 600 may all be answers, what is refused needs codes of its own. */
    private static final int NUMBER_BAD = -1001, NUMBER_STATE = -1002;
    private static final int FAULTS = -10;

    private static final int TREES = 17, MOST_NODES = 5, SIXTIETHS = 60;
    private static final int REGISTERS = 6, IMAGES = 2;
    private static final int MOST_STAGES = 4, MOST_NUMBER = 600, MOST_STRETCH = 3;
    private static final int WEIGHTS_OF_STAGES = -1;
    private static final int WHAT_IS_LEFT = -1;

    private final Trees trees;
    private final Cuts cuts;
    private final Weights weights;
    private final Text text;
    private final TreeReader treeReader;
    private final MethodReader methodReader;
    private final State now;
    private final Past past;
    private final State[] images;
    private final boolean[] kept;
    private final Sights sights;
    /** A CHARACTER is made here first, as its REGISTER may be one of those that it is made of. */
    private final long[] made;

    public RootedCuts() {
        trees = new Trees();
        cuts = new Cuts(trees);
        weights = new Weights();
        text = new Text();
        treeReader = new TreeReader(trees, text);
        methodReader = new MethodReader(text);
        now = new State();
        past = new Past();
        images = new State[] {new State(), new State()};
        kept = new boolean[IMAGES];
        sights = new Sights();
        made = new long[TREES];
    }

    // ---- what is told

    public int type(int letter) {
        if (letter < 0 || letter > 255) {
            return BAD;
        }
        return text.append(letter) ? text.length : FULL;
    }

    public int clear() {
        return text.empty();
    }

    public int tree() {
        int answer = treeReader.read();
        if (answer >= 0) {
            text.empty();
        }
        return answer;
    }

    public int method() {
        int answer = methodReader.read();
        if (answer >= 0) {
            past.remember(now);
            now.method.become(methodReader.told);
            text.empty();
        }
        return answer;
    }

    public int tells(int i, int j, int v) {
        if (!now.method.has(i, j) || v < -MOST_NUMBER || v > MOST_NUMBER) {
            return NUMBER_BAD;
        }
        int was = now.method.get(i, j);
        if (was == v) {
            return NUMBER_STATE;
        }
        past.remember(now);
        now.method.set(i, j, v);
        return was;
    }

    // ---- registers

    public int loads(int r) {
        if (!isRegister(r)) {
            return BAD;
        }
        weights.weigh(now.method, made);
        return storeMade(r);
    }

    public int flows(int r) {
        if (!isRegister(r)) {
            return BAD;
        }
        if (trees.firstUnlike(now.registers[r], trees.flow) == NONE) {
            return STATE;
        }
        System.arraycopy(trees.flow, 0, made, 0, TREES);
        storeMade(r);
        return 1;
    }

    public int composes(int r, int p, int q) {
        if (!isRegister(r) || !isRegister(p) || !isRegister(q)) {
            return BAD;
        }
        cuts.multiply(now.registers[p], now.registers[q], made);
        return storeMade(r);
    }

    public int inverts(int r, int p) {
        if (!isRegister(r) || !isRegister(p)) {
            return BAD;
        }
        cuts.invert(now.registers[p], made);
        return storeMade(r);
    }

    public int stretches(int r, int p, int h) {
        if (!isRegister(r) || !isRegister(p) || h < -MOST_STRETCH || h > MOST_STRETCH) {
            return BAD;
        }
        trees.stretch(now.registers[p], h, made);
        return storeMade(r);
    }

    public int reverses(int r, int p) {
        if (!isRegister(r) || !isRegister(p)) {
            return BAD;
        }
        cuts.invert(now.registers[p], made);
        trees.stretch(made, -1, made);
        // Asked ahead of storing: r may be p, and p is meant as it was.
        int answer = trees.likeness(made, now.registers[p]);
        storeMade(r);
        return answer;
    }

    public int puts(int r, int t, int v) {
        if (!isRegister(r) || !isTree(t)) {
            return BAD;
        }
        if (now.registers[r][t] == v) {
            return STATE;
        }
        past.remember(now);
        now.registers[r][t] = v;
        return 1;
    }

    public int undo() {
        return past.recall(now) ? past.size : STATE;
    }

    public long value(int r, int t) {
        return isRegister(r) && isTree(t) ? now.registers[r][t] : NEVER;
    }

    public int number(int i, int j) {
        return now.method.has(i, j) ? now.method.get(i, j) : NUMBER_BAD;
    }

    // ---- trees

    public int about(int t, int what) {
        if (!isTree(t)) {
            return BAD;
        }
        switch (what) {
            case 0:
                return trees.nodes[t];
            case 1:
                return trees.width[t];
            case 2:
                return trees.density[t];
            case 3:
                return trees.symmetry[t];
            case 4:
                return trees.height[t];
            case 5:
                return cuts.many[t];
            case 6:
                return trees.ways[t];
            default:
                return BAD;
        }
    }

    public int child(int t, int k) {
        if (!isTree(t) || k < 0) {
            return BAD;
        }
        return trees.childAt(t, k);
    }

    public int cut(int t, int k, int i) {
        if (!isTree(t) || k < 0 || i < WHAT_IS_LEFT) {
            return BAD;
        }
        if (k >= cuts.many[t]) {
            return NONE;
        }
        int place = cuts.start[t] + k;
        return i == WHAT_IS_LEFT ? cuts.left[place] : cuts.prunedAt(place, i);
    }

    public int grafted(int u, int v) {
        return isTree(u) && isTree(v) ? trees.graft[u][v] : BAD;
    }

    public int leaves(int t, int left) {
        return isTree(t) && isTree(left) ? cuts.howManyLeave(t, left) : BAD;
    }

    // ---- orders

    public int order(int r, int what) {
        if (!isRegister(r)) {
            return BAD;
        }
        switch (what) {
            case 0:
                return trees.likeness(now.registers[r], trees.flow);
            case 1:
                return trees.firstUnlike(now.registers[r], trees.flow);
            case 2:
                return trees.firstBreak(now.registers[r]);
            default:
                return BAD;
        }
    }

    public int like(int p, int q) {
        if (!isRegister(p) || !isRegister(q)) {
            return BAD;
        }
        return trees.likeness(now.registers[p], now.registers[q]);
    }

    // ---- which register

    public int sees(int t, long v) {
        if (!isTree(t)) {
            return BAD;
        }
        return sights.add(t, v) ? sights.size : FULL;
    }

    public int forget() {
        return sights.empty();
    }

    public int which() {
        int bits = 0;
        for (int r = 0; r < REGISTERS; r++) {
            if (sights.fit(now.registers[r])) {
                bits |= 1 << r;
            }
        }
        return bits;
    }

    // ---- images

    public int keep(int image) {
        if (!isImage(image)) {
            return BAD;
        }
        images[image].become(now);
        kept[image] = true;
        return now.method.stages;
    }

    public int back(int image) {
        if (!isImage(image)) {
            return BAD;
        }
        if (!kept[image]) {
            return STATE;
        }
        now.become(images[image]);
        past.empty();
        return now.method.stages;
    }

    public int count(int what) {
        switch (what) {
            case 0:
                return now.method.stages;
            case 1:
                return sights.size;
            case 2:
                return text.length;
            case 3:
                return past.size;
            default:
                return BAD;
        }
    }

    private static boolean isTree(int t) {
        return t >= 0 && t < TREES;
    }

    private static boolean isRegister(int r) {
        return r >= 0 && r < REGISTERS;
    }

    private static boolean isImage(int image) {
        return image >= 0 && image < IMAGES;
    }

    private int storeMade(int r) {
        past.remember(now);
        System.arraycopy(made, 0, now.registers[r], 0, TREES);
        return trees.likeness(made, trees.flow);
    }

    /**
     * All TREES. A TREE other than 0 is held as its first CHILD and the REST, which is the TREE
     * without that CHILD: both have lesser numbers, so what is known of them tells it of the TREE.
     */
    private static final class Trees {
        static final int[] FIRST = {NONE, 0, 0, 1, 0, 1, 2, 3, 0, 1, 1, 2, 3, 4, 5, 6, 7};
        static final int[] REST = {NONE, 0, 1, 0, 2, 1, 0, 0, 4, 2, 3, 1, 1, 0, 0, 0, 0};
        private static final int[] FACTORIAL = {1, 1, 2, 6, 24, 120};

        final int[] nodes = new int[TREES];
        final int[] width = new int[TREES];
        final int[] density = new int[TREES];
        final int[] symmetry = new int[TREES];
        final int[] height = new int[TREES];
        final int[] ways = new int[TREES];
        final long[] flow = new long[TREES];
        final int[][] graft = new int[TREES][TREES];

        Trees() {
            measure();
            findDensities();
            graftAtTheHead();
            graftFurtherOn();
        }

        private void measure() {
            int[] sameAtTheHead = new int[TREES];
            nodes[0] = 1;
            symmetry[0] = 1;
            for (int t = 1; t < TREES; t++) {
                int first = FIRST[t];
                int rest = REST[t];
                nodes[t] = nodes[first] + nodes[rest];
                width[t] = 1 + width[rest];
                height[t] = Math.max(1 + height[first], height[rest]);
                sameAtTheHead[t] = FIRST[rest] == first ? sameAtTheHead[rest] + 1 : 1;
                symmetry[t] = symmetry[first] * symmetry[rest] * sameAtTheHead[t];
            }
        }

        private void findDensities() {
            int[] ofChildren = new int[TREES];
            for (int t = 0; t < TREES; t++) {
                ofChildren[t] = t == 0 ? 1 : density[FIRST[t]] * ofChildren[REST[t]];
                density[t] = nodes[t] * ofChildren[t];
                if (density[t] != 0) {
                    ways[t] = FACTORIAL[nodes[t]] / density[t];
                    flow[t] = power(SIXTIETHS, nodes[t]) / density[t];
                }
            }
        }

        private void graftAtTheHead() {
            for (int u = 0; u < TREES; u++) {
                Arrays.fill(graft[u], NONE);
            }
            for (int t = 1; t < TREES; t++) {
                graft[REST[t]][FIRST[t]] = t;
            }
        }

        /** A lesser CHILD goes into the REST, and the first CHILD comes to the head again. */
        private void graftFurtherOn() {
            for (int u = 1; u < TREES; u++) {
                for (int v = 0; v < FIRST[u]; v++) {
                    if (nodes[u] + nodes[v] <= MOST_NODES) {
                        graft[u][v] = graftOrNone(graftOrNone(REST[u], v), FIRST[u]);
                    }
                }
            }
        }

        int graftOrNone(int u, int v) {
            return isTree(u) && isTree(v) ? graft[u][v] : NONE;
        }

        int childAt(int t, int k) {
            int rest = t;
            for (int i = 0; i < k && rest > 0; i++) {
                rest = REST[rest];
            }
            return FIRST[rest];
        }

        void stretch(long[] p, int h, long[] into) {
            for (int t = 0; t < TREES; t++) {
                into[t] = p[t] * power(h, nodes[t]);
            }
        }

        int firstUnlike(long[] p, long[] q) {
            for (int t = 0; t < TREES; t++) {
                if (p[t] != q[t]) {
                    return t;
                }
            }
            return NONE;
        }

        /** TREES stand by their NODES, so the first that is unlike tells how far all are alike. */
        int likeness(long[] p, long[] q) {
            int t = firstUnlike(p, q);
            return t == NONE ? MOST_NODES : nodes[t] - 1;
        }

        int firstBreak(long[] p) {
            for (int u = 0; u < TREES; u++) {
                for (int v = 0; v < TREES; v++) {
                    int uv = graft[u][v];
                    int vu = graft[v][u];
                    if (uv != NONE && vu != NONE && p[uv] + p[vu] != p[u] * p[v]) {
                        return TREES * u + v;
                    }
                }
            }
            return NONE;
        }

        private static long power(long base, int exponent) {
            long product = 1;
            for (int i = 0; i < exponent; i++) {
                product *= base;
            }
            return product;
        }
    }

    /** The CUTS of all TREES in one row of places: those of TREE t are many[t] from start[t] on. */
    private static final class Cuts {
        private static final int MOST_PRUNED = 4;

        final int[] start = new int[TREES];
        final int[] many = new int[TREES];
        final int[] left;
        private final int[] pruned;
        private final int[] forest;

        Cuts(Trees trees) {
            int places = countPlaces();
            left = new int[places];
            pruned = new int[places];
            forest = new int[places * MOST_PRUNED];
            for (int t = 1; t < TREES; t++) {
                cutTree(t, trees);
            }
        }

        private int countPlaces() {
            int places = 0;
            for (int t = 0; t < TREES; t++) {
                start[t] = places;
                many[t] = t == 0 ? 1 : (1 + many[Trees.FIRST[t]]) * many[Trees.REST[t]];
                places += many[t];
            }
            return places;
        }

        /** The REST's CUTS are in the order of the later CHILDREN's choices already. */
        private void cutTree(int t, Trees trees) {
            int first = Trees.FIRST[t];
            int rest = Trees.REST[t];
            int place = start[t];
            for (int y = 0; y < many[rest]; y++) {
                prune(place, first);
                pruneLikewise(place, start[rest] + y);
                left[place] = left[start[rest] + y];
                place++;
            }
            for (int x = 0; x < many[first]; x++) {
                for (int y = 0; y < many[rest]; y++) {
                    int ofFirst = start[first] + x;
                    int ofRest = start[rest] + y;
                    pruneLikewise(place, ofFirst);
                    pruneLikewise(place, ofRest);
                    left[place] = trees.graftOrNone(left[ofRest], left[ofFirst]);
                    place++;
                }
            }
        }

        private void prune(int place, int t) {
            if (pruned[place] < MOST_PRUNED) {
                forest[place * MOST_PRUNED + pruned[place]] = t;
                pruned[place]++;
            }
        }

        private void pruneLikewise(int place, int other) {
            for (int i = 0; i < pruned[other]; i++) {
                prune(place, forest[other * MOST_PRUNED + i]);
            }
        }

        int prunedAt(int place, int i) {
            return i < pruned[place] ? forest[place * MOST_PRUNED + i] : NONE;
        }

        int howManyLeave(int t, int tree) {
            int found = 0;
            for (int k = 0; k < many[t]; k++) {
                if (left[start[t] + k] == tree) {
                    found++;
                }
            }
            return found;
        }

        private long ofForest(long[] p, int place) {
            long product = 1;
            for (int i = 0; i < pruned[place]; i++) {
                product *= p[forest[place * MOST_PRUNED + i]];
            }
            return product;
        }

        /** p of t and of the first CUTS of t, as many as are asked for. */
        private long together(long[] p, long[] q, int t, int howMany) {
            long sum = p[t];
            for (int k = 0; k < howMany; k++) {
                int place = start[t] + k;
                sum += ofForest(p, place) * q[left[place]];
            }
            return sum;
        }

        void multiply(long[] p, long[] q, long[] into) {
            for (int t = 0; t < TREES; t++) {
                into[t] = together(p, q, t, many[t]);
            }
        }

        /** The last CUT of t leaves all of t, so it alone asks for the number that is looked for. */
        void invert(long[] p, long[] into) {
            for (int t = 0; t < TREES; t++) {
                into[t] = -together(p, into, t, many[t] - 1);
            }
        }
    }

    /** A METHOD. */
    private static final class StepMethod {
        int stages = 1;
        private final int[] a = new int[MOST_STAGES * MOST_STAGES];
        private final int[] b = new int[MOST_STAGES];

        void reset() {
            stages = 1;
            Arrays.fill(a, 0);
            Arrays.fill(b, 0);
        }

        void become(StepMethod other) {
            stages = other.stages;
            System.arraycopy(other.a, 0, a, 0, a.length);
            System.arraycopy(other.b, 0, b, 0, b.length);
        }

        boolean has(int i, int j) {
            return i >= 0 && i < stages && j >= WEIGHTS_OF_STAGES && j < stages;
        }

        int get(int i, int j) {
            if (!has(i, j)) {
                return 0;
            }
            return j == WEIGHTS_OF_STAGES ? b[i] : a[i * MOST_STAGES + j];
        }

        void set(int i, int j, int v) {
            if (!has(i, j)) {
                return;
            }
            if (j == WEIGHTS_OF_STAGES) {
                b[i] = v;
            } else {
                a[i * MOST_STAGES + j] = v;
            }
        }
    }

    /** WEIGHT of a METHOD, with the rows that it is made in. */
    private static final class Weights {
        private final long[][] ofStage = new long[MOST_STAGES][TREES];
        /** What a TREE gives to the STAGE j if it is a CHILD. */
        private final long[][] asChild = new long[MOST_STAGES][TREES];

        void weigh(StepMethod method, long[] into) {
            for (int t = 0; t < TREES; t++) {
                long sum = 0;
                for (int j = 0; j < method.stages; j++) {
                    ofStage[j][t] = t == 0 ? 1 : asChild[j][Trees.FIRST[t]] * ofStage[j][Trees.REST[t]];
                    sum += method.get(j, WEIGHTS_OF_STAGES) * ofStage[j][t];
                }
                into[t] = sum;
                giveAsChild(method, t);
            }
        }

        private void giveAsChild(StepMethod method, int t) {
            for (int j = 0; j < method.stages; j++) {
                long sum = 0;
                for (int k = 0; k < method.stages; k++) {
                    sum += method.get(j, k) * ofStage[k][t];
                }
                asChild[j][t] = sum;
            }
        }
    }

    /** What is UNDONE and what IMAGES keep: METHOD and REGISTERS. */
    private static final class State {
        final StepMethod method = new StepMethod();
        final long[][] registers = new long[REGISTERS][TREES];

        void become(State other) {
            method.become(other.method);
            for (int r = 0; r < REGISTERS; r++) {
                System.arraycopy(other.registers[r], 0, registers[r], 0, TREES);
            }
        }
    }

    /** A ring: the oldest is lost when one more than it can know is remembered. */
    private static final class Past {
        private static final int MOST_KNOWN = 6;

        private final State[] known = new State[MOST_KNOWN];
        private int next = 0;
        int size = 0;

        Past() {
            for (int i = 0; i < MOST_KNOWN; i++) {
                known[i] = new State();
            }
        }

        void remember(State now) {
            known[next].become(now);
            next = next + 1 < MOST_KNOWN ? next + 1 : 0;
            size = Math.min(size + 1, MOST_KNOWN);
        }

        boolean recall(State now) {
            if (size == 0) {
                return false;
            }
            next = next > 0 ? next - 1 : MOST_KNOWN - 1;
            size--;
            now.become(known[next]);
            return true;
        }

        void empty() {
            size = 0;
        }
    }

    /** What was SEEN. */
    private static final class Sights {
        private static final int MOST_SEEN = 6;

        private final int[] seenTrees = new int[MOST_SEEN];
        private final long[] seenNumbers = new long[MOST_SEEN];
        int size = 0;

        boolean add(int t, long v) {
            if (size >= MOST_SEEN) {
                return false;
            }
            seenTrees[size] = t;
            seenNumbers[size] = v;
            size++;
            return true;
        }

        int empty() {
            int had = size;
            size = 0;
            return had;
        }

        boolean fit(long[] p) {
            for (int i = 0; i < size; i++) {
                if (p[seenTrees[i]] != seenNumbers[i]) {
                    return false;
                }
            }
            return true;
        }
    }

    /** THE TEXT. */
    private static final class Text {
        static final int MOST_LETTERS = 160;
        static final int BLANK = 32;

        private final int[] letters = new int[MOST_LETTERS];
        int length = 0;

        boolean append(int letter) {
            if (length >= MOST_LETTERS) {
                return false;
            }
            letters[length] = letter;
            length++;
            return true;
        }

        int empty() {
            int had = length;
            length = 0;
            return had;
        }

        /** A blank, which stands for nothing anywhere, where there is no letter. */
        int letterAt(int place) {
            return place >= 0 && place < length ? letters[place] : BLANK;
        }
    }

    /** Reads a TREE. Each ( opens a TREE 0, each ) grafts what it closes onto what is still open. */
    private static final class TreeReader {
        private final Trees trees;
        private final Text text;
        private final int[] open = new int[MOST_NODES];
        private int depth = 0;
        private int nodes = 0;

        TreeReader(Trees trees, Text text) {
            this.trees = trees;
            this.text = text;
        }

        int read() {
            depth = 0;
            nodes = 0;
            for (int place = 0; place < text.length; place++) {
                int letter = text.letterAt(place);
                if (letter != Text.BLANK && !takes(letter)) {
                    return FAULTS - place;
                }
            }
            return isWhole() ? open[0] : FAULTS - text.length;
        }

        private boolean isWhole() {
            return nodes > 0 && depth == 0;
        }

        private boolean takes(int letter) {
            if (letter == '(' && nodes < MOST_NODES && !isWhole()) {
                open[depth] = 0;
                depth++;
                nodes++;
                return true;
            }
            if (letter == ')' && depth > 0) {
                depth--;
                if (depth > 0) {
                    open[depth - 1] = trees.graftOrNone(open[depth - 1], open[depth]);
                }
                return true;
            }
            return false;
        }
    }

    /** Takes THE TEXT token by token; a kind of token is its letter, or one of those below. */
    private static final class Tokens {
        static final int NUMBER = '0';
        static final int END = -1;
        private static final int WRONG = -2;
        private static final int MOST_OF_A_NUMBER = 999;

        private final Text text;
        private int next = 0;
        int kind = END;
        int place = 0;
        int size = 0;

        Tokens(Text text) {
            this.text = text;
        }

        void restart() {
            next = 0;
            advance();
        }

        void advance() {
            while (next < text.length && text.letterAt(next) == Text.BLANK) {
                next++;
            }
            place = next;
            if (next >= text.length) {
                kind = END;
            } else if (isFigure(text.letterAt(next))) {
                takeFigures();
            } else {
                kind = kindOf(text.letterAt(next));
                next++;
            }
        }

        private void takeFigures() {
            size = 0;
            while (next < text.length && isFigure(text.letterAt(next))) {
                // Held down, as 160 figures would wrap.
                size = Math.min(10 * size + text.letterAt(next) - '0', MOST_OF_A_NUMBER + 1);
                next++;
            }
            boolean zeroAhead = text.letterAt(place) == '0' && next - place > 1;
            kind = zeroAhead || size > MOST_OF_A_NUMBER ? WRONG : NUMBER;
        }

        private static boolean isFigure(int letter) {
            return letter >= '0' && letter <= '9';
        }

        private static int kindOf(int letter) {
            switch (letter) {
                case 's':
                case 'a':
                case 'b':
                case '-':
                case ';':
                    return letter;
                default:
                    return WRONG;
            }
        }
    }

    /** Reads a METHOD. Where it stops short, the token at hand is the one that can't stand there. */
    private static final class MethodReader {
        final StepMethod told = new StepMethod();
        private final Tokens tokens;
        private int items = 0;
        private int row = 0;
        private int column = 0;

        MethodReader(Text text) {
            tokens = new Tokens(text);
        }

        int read() {
            told.reset();
            items = 0;
            tokens.restart();
            while (items < Text.MOST_LETTERS && tokens.kind != Tokens.END) {
                if (!takesItem()) {
                    return FAULTS - tokens.place;
                }
                items++;
                tokens.advance();
            }
            return items;
        }

        private boolean takesItem() {
            switch (tokens.kind) {
                case 's':
                    return items == 0 && takesStages() && takesEnd();
                case 'a':
                    return takesRow() && takesColumn() && takesNumber() && takesEnd();
                case 'b':
                    column = WEIGHTS_OF_STAGES;
                    return takesRow() && takesNumber() && takesEnd();
                default:
                    return false;
            }
        }

        private boolean takesStages() {
            tokens.advance();
            if (!isSize(1, MOST_STAGES)) {
                return false;
            }
            told.stages = tokens.size;
            return true;
        }

        private boolean takesRow() {
            tokens.advance();
            row = tokens.size;
            return isSize(0, told.stages - 1);
        }

        private boolean takesColumn() {
            tokens.advance();
            column = tokens.size;
            return isSize(0, told.stages - 1);
        }

        private boolean takesNumber() {
            tokens.advance();
            boolean below = tokens.kind == '-';
            if (below) {
                tokens.advance();
            }
            if (!isSize(0, MOST_NUMBER)) {
                return false;
            }
            told.set(row, column, below ? -tokens.size : tokens.size);
            return true;
        }

        private boolean takesEnd() {
            tokens.advance();
            return tokens.kind == ';';
        }

        private boolean isSize(int least, int most) {
            return tokens.kind == Tokens.NUMBER && tokens.size >= least && tokens.size <= most;
        }
    }
}
