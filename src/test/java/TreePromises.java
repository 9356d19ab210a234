/** Promises 17 to 21: about, child, cut, grafted, leaves. */
public final class TreePromises {
    private static final Due due = new Due();
    private static final int BAD = RootedCuts.BAD, NONE = RootedCuts.NONE;
    private static final int[][] ROWS = {
        {}, {0}, {0, 0}, {1}, {0, 0, 0}, {1, 0}, {2}, {3},
        {0, 0, 0, 0}, {1, 0, 0}, {1, 1}, {2, 0}, {3, 0}, {4}, {5}, {6}, {7}};
    private static final Fresh fresh = new Fresh();

    public static void main(String[] args) {
        about();
        child();
        cutsOfTree11();
        cutEdges();
        grafted();
        leaves();
        treesStandStill();
        due.end();
    }

    private static void about() {
        int[][] due7 = {
            {1, 1, 2, 3, 3, 4, 4, 4, 4, 5, 5, 5, 5, 5, 5, 5, 5, 5},
            {1, 0, 1, 2, 1, 3, 2, 1, 1, 4, 3, 2, 2, 2, 1, 1, 1, 1},
            {1, 1, 2, 3, 6, 4, 8, 12, 24, 5, 10, 20, 15, 30, 20, 40, 60, 120},
            {1, 1, 1, 2, 1, 6, 1, 2, 1, 24, 2, 2, 2, 1, 6, 1, 2, 1},
            {1, 0, 1, 1, 2, 1, 2, 2, 3, 1, 2, 2, 2, 3, 2, 3, 3, 4},
            {1, 1, 2, 4, 3, 8, 6, 5, 4, 16, 12, 9, 10, 8, 9, 7, 6, 5},
            {1, 1, 1, 2, 1, 6, 3, 2, 1, 24, 12, 6, 8, 4, 6, 3, 2, 1}};
        for (int what = 0; what < 7; what++) {
            for (int t = 0; t < 17; t++) {
                due.is("about(" + t + ", " + what + ")", fresh.x().about(t, what), due7[what][t + 1]);
            }
            due.is("about(-1, " + what + ")", fresh.x().about(-1, what), BAD);
            due.is("about(17, " + what + ")", fresh.x().about(17, what), BAD);
        }
        due.is("about(0, -1)", fresh.x().about(0, -1), BAD);
        due.is("about(16, 7)", fresh.x().about(16, 7), BAD);
        due.is("about(MIN, MAX)", fresh.x().about(Integer.MIN_VALUE, Integer.MAX_VALUE), BAD);
        due.is("about(MAX, 0)", fresh.x().about(Integer.MAX_VALUE, 0), BAD);
    }

    private static void child() {
        for (int t = 0; t < 17; t++) {
            for (int k = 0; k < 6; k++) {
                int want = k < ROWS[t].length ? ROWS[t][k] : NONE;
                due.is("child(" + t + ", " + k + ")", fresh.x().child(t, k), want);
            }
            due.is("child(" + t + ", MAX)", fresh.x().child(t, Integer.MAX_VALUE), NONE);
            due.is("child(" + t + ", -1)", fresh.x().child(t, -1), BAD);
        }
        due.is("child(-1, 0)", fresh.x().child(-1, 0), BAD);
        due.is("child(17, 0)", fresh.x().child(17, 0), BAD);
        due.is("child(17, 9)", fresh.x().child(17, 9), BAD);
        due.is("child(MIN, MIN)", fresh.x().child(Integer.MIN_VALUE, Integer.MIN_VALUE), BAD);
    }

    /** TREE 11 has the CHILDREN 2 and 0: what is left, then what is PRUNED, for each of its ten CUTS. */
    private static void cutsOfTree11() {
        int[][] cuts = {
            {0, 2, 0}, {1, 2},
            {1, 0, 0, 0}, {2, 0, 0},
            {3, 0, 0}, {5, 0},
            {3, 0, 0}, {5, 0},
            {6, 0}, {11}};
        for (int k = 0; k < 11; k++) {
            for (int i = -1; i < 5; i++) {
                int want = k < cuts.length && i + 1 < cuts[k].length ? cuts[k][i + 1] : NONE;
                due.is("cut(11, " + k + ", " + i + ")", fresh.x().cut(11, k, i), want);
            }
        }
        due.is("cut(12, 3, -1)", fresh.x().cut(12, 3, -1), 2);
        due.is("cut(12, 3, 0)", fresh.x().cut(12, 3, 0), 1);
        due.is("cut(10, 1, 0)", fresh.x().cut(10, 1, 0), 1);
        due.is("cut(10, 1, 1)", fresh.x().cut(10, 1, 1), 0);
        due.is("cut(10, 3, 0)", fresh.x().cut(10, 3, 0), 0);
        due.is("cut(10, 3, 1)", fresh.x().cut(10, 3, 1), 1);
        // What is left of the first CHILD may be the lesser: it stands behind the other then.
        due.is("cut(10, 5, -1)", fresh.x().cut(10, 5, -1), 5);
        due.is("cut(10, 7, -1)", fresh.x().cut(10, 7, -1), 5);
    }

    private static void cutEdges() {
        due.is("cut(8, 0, 3)", fresh.x().cut(8, 0, 3), 0);
        due.is("cut(8, 0, 4)", fresh.x().cut(8, 0, 4), NONE);
        due.is("cut(8, 15, -1)", fresh.x().cut(8, 15, -1), 8);
        due.is("cut(8, 15, 0)", fresh.x().cut(8, 15, 0), NONE);
        due.is("cut(8, 16, -1)", fresh.x().cut(8, 16, -1), NONE);
        due.is("cut(8, MAX, 0)", fresh.x().cut(8, Integer.MAX_VALUE, 0), NONE);
        due.is("cut(8, 0, MAX)", fresh.x().cut(8, 0, Integer.MAX_VALUE), NONE);
        due.is("cut(8, -1, 0)", fresh.x().cut(8, -1, 0), BAD);
        due.is("cut(8, 0, -2)", fresh.x().cut(8, 0, -2), BAD);
        due.is("cut(8, 99, -2)", fresh.x().cut(8, 99, -2), BAD);
        due.is("cut(-1, 0, 0)", fresh.x().cut(-1, 0, 0), BAD);
        due.is("cut(17, 0, -1)", fresh.x().cut(17, 0, -1), BAD);
        due.is("cut(MIN, MIN, MIN)", fresh.x().cut(Integer.MIN_VALUE, Integer.MIN_VALUE, Integer.MIN_VALUE), BAD);
        for (int t = 0; t < 17; t++) {
            int last = fresh.x().about(t, 5) - 1;
            due.is("the last CUT of " + t + " leaves", fresh.x().cut(t, last, -1), t);
            due.is("the last CUT of " + t + " prunes", fresh.x().cut(t, last, 0), NONE);
            due.is("the first CUT of " + t + " leaves", fresh.x().cut(t, 0, -1), 0);
            for (int k = 0; k < ROWS[t].length; k++) {
                due.is("the first CUT of " + t + " prunes", fresh.x().cut(t, 0, k), ROWS[t][k]);
            }
        }
    }

    private static void grafted() {
        int[][] dues = {
            {0, 0, 1}, {0, 1, 3}, {0, 2, 6}, {0, 3, 7}, {0, 4, 13}, {0, 5, 14}, {0, 6, 15}, {0, 7, 16},
            {1, 0, 2}, {1, 1, 5}, {1, 2, 11}, {1, 3, 12}, {2, 0, 4}, {2, 1, 9}, {3, 0, 5}, {3, 1, 10},
            {4, 0, 8}, {5, 0, 9}, {6, 0, 11}, {7, 0, 12}};
        int[][] all = new int[17][17];
        for (int[] row : all) {
            java.util.Arrays.fill(row, NONE);
        }
        for (int[] uvt : dues) {
            all[uvt[0]][uvt[1]] = uvt[2];
        }
        for (int u = 0; u < 17; u++) {
            for (int v = 0; v < 17; v++) {
                due.is("grafted(" + u + ", " + v + ")", fresh.x().grafted(u, v), all[u][v]);
            }
            due.is("grafted(" + u + ", -1)", fresh.x().grafted(u, -1), BAD);
            due.is("grafted(" + u + ", 17)", fresh.x().grafted(u, 17), BAD);
            due.is("grafted(-1, " + u + ")", fresh.x().grafted(-1, u), BAD);
            due.is("grafted(17, " + u + ")", fresh.x().grafted(17, u), BAD);
        }
        due.is("grafted(MAX, MIN)", fresh.x().grafted(Integer.MAX_VALUE, Integer.MIN_VALUE), BAD);
    }

    private static void leaves() {
        due.is("leaves(0, 0)", fresh.x().leaves(0, 0), 1);
        due.is("leaves(0, 1)", fresh.x().leaves(0, 1), 0);
        int[] of8 = {1, 4, 6, 0, 4, 0, 0, 0, 1, 0, 0, 0, 0, 0, 0, 0, 0};
        int[] of11 = {1, 2, 1, 2, 0, 2, 1, 0, 0, 0, 0, 1, 0, 0, 0, 0, 0};
        for (int t = 0; t < 17; t++) {
            due.is("leaves(8, " + t + ")", fresh.x().leaves(8, t), of8[t]);
            due.is("leaves(11, " + t + ")", fresh.x().leaves(11, t), of11[t]);
            due.is("leaves(" + t + ", 17)", fresh.x().leaves(t, 17), BAD);
            due.is("leaves(" + t + ", -1)", fresh.x().leaves(t, -1), BAD);
            due.is("leaves(17, " + t + ")", fresh.x().leaves(17, t), BAD);
            due.is("leaves(-1, " + t + ")", fresh.x().leaves(-1, t), BAD);
        }
        due.is("leaves(MIN, MAX)", fresh.x().leaves(Integer.MIN_VALUE, Integer.MAX_VALUE), BAD);
    }

    private static void treesStandStill() {
        RootedCuts y = new RootedCuts();
        y.flows(0);
        y.about(9, 5);
        y.cut(9, 3, 0);
        y.grafted(2, 1);
        y.leaves(9, 2);
        y.child(9, 0);
        due.is("UNDONE behind what was asked of trees", y.count(3), 1);
        due.is("REGISTER 0 behind it", y.order(0, 0), 5);
    }
}
