/** The document's sentences about TREES, CUTS and grafts, at their edges. */
public final class TreeEdges {
    private static final int BAD = RootedCuts.BAD, NONE = RootedCuts.NONE;
    private static final int[] NO_TREES = {-1, 17, -17, 18, 33, Integer.MIN_VALUE, Integer.MAX_VALUE};
    private static final int MIN = Integer.MIN_VALUE, MAX = Integer.MAX_VALUE;
    private static final Due due = new Due();
    private static final Fresh fresh = new Fresh();

    public static void main(String[] args) {
        rowsInOrder();
        fewestNodesFirst();
        lesserRowsFirst();
        treesThatThereAreNot();
        whatThereIsToAsk();
        measuresOfTheRootAlone();
        symmetryOfSames();
        heightsAndWays();
        childrenThatThereAreNot();
        theOneCutOfTree0();
        cutsThatThereAreNot();
        prunedThatThereAreNot();
        theRootIsNeverPruned();
        prunedAheadOfItsOwnCuts();
        forestAsItIsComeTo();
        leftInItsRow();
        fiveNodesAndSix();
        graftedAtTheEdges();
        leavesAddUp();
        badAheadOfNone();
        due.end();
    }

    private static int nodes(int t) {
        return fresh.x().about(t, 0);
    }

    private static int width(int t) {
        return fresh.x().about(t, 1);
    }

    private static int cuts(int t) {
        return fresh.x().about(t, 5);
    }

    // ---- numbers of trees

    private static void rowsInOrder() {
        due.by("A TREE has a root with CHILDREN, TREES in a row, none of a greater number than the one ahead of it.");
        for (int t = 0; t < 17; t++) {
            for (int k = 1; k < width(t); k++) {
                due.is("child(" + t + ", " + k + ") is greater", fresh.x().child(t, k) > fresh.x().child(t, k - 1) ? 1 : 0, 0);
            }
        }
        due.is("child(10, 1), as great as the one ahead", fresh.x().child(10, 1), 1);
        due.is("child(12, 0)", fresh.x().child(12, 0), 3);
        due.is("child(12, 1)", fresh.x().child(12, 1), 0);
    }

    private static void fewestNodesFirst() {
        due.by("TREES are all those of 1 to 5 NODES, numbered 0 to 16: by NODES, the fewest first");
        int[] first = {0, 1, 2, 4, 8, 17};
        for (int n = 1; n <= 5; n++) {
            for (int t = first[n - 1]; t < first[n]; t++) {
                due.is("NODES of " + t, nodes(t), n);
            }
        }
        for (int t = 0; t < 17; t++) {
            int all = 1;
            for (int k = 0; k < width(t); k++) {
                all += nodes(fresh.x().child(t, k));
            }
            due.is("1 and the NODES of the CHILDREN of " + t, all, nodes(t));
        }
    }

    private static void lesserRowsFirst() {
        due.by("the one that has the lesser number at the first place at which the rows differ comes first.");
        for (int t = 1; t < 17; t++) {
            if (nodes(t) != nodes(t - 1)) {
                continue;
            }
            int k = 0;
            while (k < 4 && fresh.x().child(t, k) == fresh.x().child(t - 1, k)) {
                k++;
            }
            due.is(t + " has the greater CHILD at place " + k, fresh.x().child(t, k) > fresh.x().child(t - 1, k) ? 1 : 0, 1);
        }
        due.is("child(9, 0) against child(10, 0)", fresh.x().child(9, 0), fresh.x().child(10, 0));
        due.is("child(9, 1)", fresh.x().child(9, 1), 0);
        due.is("child(10, 1)", fresh.x().child(10, 1), 1);
    }

    private static void treesThatThereAreNot() {
        due.by("BAD (a number is not as told, or there is no such thing)");
        RootedCuts seeing = new RootedCuts();
        for (int t : NO_TREES) {
            for (int what = 0; what < 7; what++) {
                due.is("about(" + t + ", " + what + ")", fresh.x().about(t, what), BAD);
            }
            due.is("child(" + t + ", 0)", fresh.x().child(t, 0), BAD);
            due.is("cut(" + t + ", 0, -1)", fresh.x().cut(t, 0, -1), BAD);
            due.is("cut(" + t + ", 0, 0)", fresh.x().cut(t, 0, 0), BAD);
            for (int u = 0; u <= 16; u += 16) {
                due.is("grafted(" + t + ", " + u + ")", fresh.x().grafted(t, u), BAD);
                due.is("grafted(" + u + ", " + t + ")", fresh.x().grafted(u, t), BAD);
                due.is("leaves(" + t + ", " + u + ")", fresh.x().leaves(t, u), BAD);
                due.is("leaves(" + u + ", " + t + ")", fresh.x().leaves(u, t), BAD);
            }
            due.is("sees(" + t + ", 0)", seeing.sees(t, 0), BAD);
        }
        due.is("SEEN behind that", seeing.count(1), 0);
    }

    // ---- about

    private static void whatThereIsToAsk() {
        due.by("Of a TREE: 0 NODES, 1 how many CHILDREN, 2 DENSITY, 3 SYMMETRY, 4 HEIGHT, 5 how many CUTS, 6 WAYS. BAD.");
        int[] of0 = {1, 0, 1, 1, 0, 1, 1};
        int[] of9 = {5, 3, 10, 2, 2, 12, 12};
        int[] of16 = {5, 1, 120, 1, 4, 5, 1};
        for (int what = 0; what < 7; what++) {
            due.is("about(0, " + what + ")", fresh.x().about(0, what), of0[what]);
            due.is("about(9, " + what + ")", fresh.x().about(9, what), of9[what]);
            due.is("about(16, " + what + ")", fresh.x().about(16, what), of16[what]);
        }
        for (int what : new int[] {-1, 7, -7, 8, MIN, MAX}) {
            for (int t = 0; t < 17; t++) {
                due.is("about(" + t + ", " + what + ")", fresh.x().about(t, what), BAD);
            }
        }
    }

    private static void measuresOfTheRootAlone() {
        due.by("(0 is the root alone, 1 has the CHILD 0; 2 has 0, 0; 3 has 1.)");
        due.is("CHILDREN of 0", width(0), 0);
        due.is("child(0, 0)", fresh.x().child(0, 0), NONE);
        due.is("child(1, 0)", fresh.x().child(1, 0), 0);
        due.is("child(1, 1)", fresh.x().child(1, 1), NONE);
        due.is("child(2, 0)", fresh.x().child(2, 0), 0);
        due.is("child(2, 1)", fresh.x().child(2, 1), 0);
        due.is("child(2, 2)", fresh.x().child(2, 2), NONE);
        due.is("child(3, 0)", fresh.x().child(3, 0), 1);
        due.is("child(3, 1)", fresh.x().child(3, 1), NONE);
    }

    private static void symmetryOfSames() {
        due.by("SYMMETRY of a TREE: the product of its CHILDREN's SYMMETRIES, and, for each TREE that is a CHILD m times, of 1 to m.");
        int[][] want = {{0, 1}, {1, 1}, {2, 2}, {3, 1}, {4, 6}, {5, 1}, {6, 2}, {7, 1}, {8, 24}, {9, 2}, {10, 2}, {11, 2}, {12, 1},
            {13, 6}, {14, 1}, {15, 2}, {16, 1}};
        for (int[] w : want) {
            due.is("SYMMETRY of " + w[0], fresh.x().about(w[0], 3), w[1]);
        }
    }

    private static void heightsAndWays() {
        due.by("HEIGHT: 0 of TREE 0, else 1 and the greatest HEIGHT of a CHILD.");
        int[] height = {0, 1, 1, 2, 1, 2, 2, 3, 1, 2, 2, 2, 3, 2, 3, 3, 4};
        int[] factorial = {1, 1, 2, 6, 24, 120};
        for (int t = 0; t < 17; t++) {
            due.is("HEIGHT of " + t, fresh.x().about(t, 4), height[t]);
        }
        due.by("WAYS of a TREE: (the product of 1 to NODES) divided by DENSITY.");
        for (int t = 0; t < 17; t++) {
            due.is("WAYS times DENSITY of " + t, fresh.x().about(t, 6) * fresh.x().about(t, 2), factorial[nodes(t)]);
        }
    }

    // ---- child

    private static void childrenThatThereAreNot() {
        due.by("The k-th CHILD (0 on) of a TREE; NONE: there are not so many. BAD (k below 0).");
        for (int t = 0; t < 17; t++) {
            int many = width(t);
            for (int k = 0; k < many; k++) {
                due.is("child(" + t + ", " + k + ") is none", fresh.x().child(t, k) < 0 ? 1 : 0, 0);
            }
            for (int k : new int[] {many, many + 1, 5, 17, MAX}) {
                due.is("child(" + t + ", " + k + ")", fresh.x().child(t, k), NONE);
            }
            due.is("child(" + t + ", -1)", fresh.x().child(t, -1), BAD);
            due.is("child(" + t + ", MIN)", fresh.x().child(t, MIN), BAD);
        }
    }

    // ---- cut

    private static void theOneCutOfTree0() {
        due.by("(So the root is never PRUNED; of TREE 0 there is one CUT, nothing is PRUNED.)");
        due.is("how many CUTS", cuts(0), 1);
        due.is("cut(0, 0, -1)", fresh.x().cut(0, 0, -1), 0);
        due.is("cut(0, 0, 0)", fresh.x().cut(0, 0, 0), NONE);
        due.is("cut(0, 1, -1)", fresh.x().cut(0, 1, -1), NONE);
        due.is("cut(0, 1, 0)", fresh.x().cut(0, 1, 0), NONE);
        due.is("leaves(0, 0)", fresh.x().leaves(0, 0), 1);
    }

    private static void cutsThatThereAreNot() {
        due.by("NONE: there are not so many CUTS, or TREES. BAD (k below 0, i below -1).");
        for (int t = 0; t < 17; t++) {
            int many = cuts(t);
            due.is("the last CUT of " + t + " leaves", fresh.x().cut(t, many - 1, -1), t);
            for (int i = -1; i < 2; i++) {
                due.is("one more CUT of " + t + ", i = " + i, fresh.x().cut(t, many, i), NONE);
                due.is("cut(" + t + ", MAX, " + i + ")", fresh.x().cut(t, MAX, i), NONE);
                due.is("cut(" + t + ", -1, " + i + ")", fresh.x().cut(t, -1, i), BAD);
                due.is("cut(" + t + ", MIN, " + i + ")", fresh.x().cut(t, MIN, i), BAD);
            }
            for (int k : new int[] {0, many - 1, many, MAX}) {
                due.is("cut(" + t + ", " + k + ", -2)", fresh.x().cut(t, k, -2), BAD);
                due.is("cut(" + t + ", " + k + ", MIN)", fresh.x().cut(t, k, MIN), BAD);
            }
        }
    }

    private static void prunedThatThereAreNot() {
        due.by("the i-th TREE of the FOREST that is PRUNED (0 on); NONE: there are not so many CUTS, or TREES.");
        for (int t = 0; t < 17; t++) {
            due.is("the first CUT of " + t + " leaves", fresh.x().cut(t, 0, -1), 0);
            for (int i = 0; i < width(t); i++) {
                due.is("the first CUT of " + t + " prunes", fresh.x().cut(t, 0, i), fresh.x().child(t, i));
            }
            due.is("one more of the first CUT of " + t, fresh.x().cut(t, 0, width(t)), NONE);
            due.is("cut(" + t + ", 0, MAX)", fresh.x().cut(t, 0, MAX), NONE);
            due.is("the last CUT of " + t + " prunes", fresh.x().cut(t, cuts(t) - 1, 0), NONE);
        }
    }

    private static void theRootIsNeverPruned() {
        due.by("So the root is never PRUNED");
        for (int t = 0; t < 17; t++) {
            for (int k = 0; k < cuts(t); k++) {
                int all = nodes(fresh.x().cut(t, k, -1));
                int i = 0;
                while (i < 5 && fresh.x().cut(t, k, i) != NONE) {
                    due.is("cut(" + t + ", " + k + ", " + i + ") is the whole", fresh.x().cut(t, k, i) == t ? 1 : 0, 0);
                    all += nodes(fresh.x().cut(t, k, i));
                    i++;
                }
                due.is("NODES left and PRUNED of cut " + k + " of " + t, all, nodes(t));
            }
        }
    }

    private static void prunedAheadOfItsOwnCuts() {
        due.by("by the choices for the CHILDREN, the first CHILD's first: PRUNED ahead of its own CUTS, these by their numbers.");
        for (int t = 1; t < 17; t++) {
            int many = 1;
            for (int i = 0; i < width(t); i++) {
                many *= 1 + cuts(fresh.x().child(t, i));
            }
            due.is("CUTS of " + t, cuts(t), many);
        }
        // TREE 12 has 3, 0: 3 PRUNED, then 3's CUTS (1 PRUNED; 0 PRUNED; nothing), each with 0 PRUNED, then left.
        int[][] of12 = {{0, 3, 0}, {1, 3}, {1, 1, 0}, {2, 1}, {3, 0, 0}, {5, 0}, {7, 0}, {12}};
        cutsAre(12, of12);
        int[][] of14 = {{0, 5}, {1, 1, 0}, {3, 1}, {3, 0, 0}, {6, 0}, {7, 0}, {14}};
        cutsAre(14, of14);
    }

    private static void cutsAre(int t, int[][] want) {
        due.is("CUTS of " + t, cuts(t), want.length);
        for (int k = 0; k < want.length; k++) {
            for (int i = -1; i < 5; i++) {
                due.is("cut(" + t + ", " + k + ", " + i + ")", fresh.x().cut(t, k, i), i + 1 < want[k].length ? want[k][i + 1] : NONE);
            }
        }
    }

    private static void forestAsItIsComeTo() {
        due.by("The FOREST that is PRUNED: all that is, as it is come to, CHILD by CHILD (within a CHILD that is left likewise).");
        // TREE 10 has 1, 1: a lesser TREE that is come to first stands ahead of a greater one.
        int[][] of10 = {{0, 1, 1}, {1, 1, 0}, {3, 1}, {1, 0, 1}, {2, 0, 0}, {5, 0}, {3, 1}, {5, 0}, {10}};
        cutsAre(10, of10);
        int[][] of9 = {{0, 1, 0, 0}, {1, 1, 0}, {1, 1, 0}, {2, 1}, {1, 0, 0, 0}, {2, 0, 0}, {2, 0, 0}, {4, 0},
            {3, 0, 0}, {5, 0}, {5, 0}, {9}};
        cutsAre(9, of9);
    }

    private static void leftInItsRow() {
        due.by("What is left is a TREE again (its CHILDREN put in their row).");
        // Of TREE 10 (1, 1) the first CHILD is cut down to 0, the second stays: 1, 0, which is TREE 5.
        due.is("cut(10, 5, -1)", fresh.x().cut(10, 5, -1), 5);
        due.is("cut(10, 5, 0)", fresh.x().cut(10, 5, 0), 0);
        // It is the only TREE of whose CHILDREN the first can come to be the lesser.
        due.is("cut(10, 7, -1), the second cut down", fresh.x().cut(10, 7, -1), 5);
        for (int t = 0; t < 17; t++) {
            for (int k = 0; k < cuts(t); k++) {
                due.is("cut(" + t + ", " + k + ", -1) is no TREE", nodes(fresh.x().cut(t, k, -1)) < 1 ? 1 : 0, 0);
            }
        }
    }

    // ---- grafted, leaves

    private static void fiveNodesAndSix() {
        due.by("GRAFTED: TREE u with one more CHILD v (in its row); NONE, if it would have more than 5 NODES.");
        for (int u = 0; u < 17; u++) {
            for (int v = 0; v < 17; v++) {
                int both = fresh.x().grafted(u, v);
                if (nodes(u) + nodes(v) > 5) {
                    due.is("grafted(" + u + ", " + v + ")", both, NONE);
                } else {
                    due.is("NODES of grafted(" + u + ", " + v + ")", nodes(both), nodes(u) + nodes(v));
                    due.is("CHILDREN of grafted(" + u + ", " + v + ")", width(both), width(u) + 1);
                    due.is("v among them, times more", times(v, both) - times(v, u), 1);
                }
            }
        }
        due.is("grafted(0, 7): 5 NODES", fresh.x().grafted(0, 7), 16);
        due.is("grafted(0, 8): 6 NODES", fresh.x().grafted(0, 8), NONE);
        due.is("grafted(7, 0): 5 NODES", fresh.x().grafted(7, 0), 12);
        due.is("grafted(8, 0): 6 NODES", fresh.x().grafted(8, 0), NONE);
        due.is("grafted(3, 1): 5 NODES", fresh.x().grafted(3, 1), 10);
        due.is("grafted(3, 2): 6 NODES", fresh.x().grafted(3, 2), NONE);
        due.is("grafted(16, 16)", fresh.x().grafted(16, 16), NONE);
    }

    private static void graftedAtTheEdges() {
        due.by("GRAFTED; NONE. BAD.");
        for (int u = -1; u <= 17; u++) {
            for (int v = -1; v <= 17; v++) {
                if (u < 0 || u > 16 || v < 0 || v > 16) {
                    due.is("grafted(" + u + ", " + v + ")", fresh.x().grafted(u, v), BAD);
                }
            }
        }
        due.is("grafted(0, 0)", fresh.x().grafted(0, 0), 1);
        due.is("grafted(16, 0)", fresh.x().grafted(16, 0), NONE);
        due.is("grafted(0, 16)", fresh.x().grafted(0, 16), NONE);
    }

    private static int times(int v, int t) {
        int found = 0;
        for (int k = 0; k < width(t); k++) {
            found += fresh.x().child(t, k) == v ? 1 : 0;
        }
        return found;
    }

    private static void leavesAddUp() {
        due.by("How many CUTS of a TREE leave a TREE. BAD.");
        for (int t = 0; t < 17; t++) {
            int all = 0;
            for (int left = 0; left < 17; left++) {
                all += fresh.x().leaves(t, left);
                boolean asGreat = nodes(left) >= nodes(t);
                due.is("leaves(" + t + ", " + left + "), wrongly", asGreat && left != t && fresh.x().leaves(t, left) != 0 ? 1 : 0, 0);
            }
            due.is("CUTS of " + t + " that leave any", all, cuts(t));
            due.is("leaves(" + t + ", 0)", fresh.x().leaves(t, 0), 1);
            due.is("leaves(" + t + ", " + t + ")", fresh.x().leaves(t, t), 1);
        }
        due.is("leaves(8, 2)", fresh.x().leaves(8, 2), 6);
        due.is("leaves(8, 3)", fresh.x().leaves(8, 3), 0);
    }

    private static void badAheadOfNone() {
        due.by("Refused, and nothing changes, the first of these that is so: BAD");
        due.is("child(17, 99)", fresh.x().child(17, 99), BAD);
        due.is("child(0, -1)", fresh.x().child(0, -1), BAD);
        due.is("cut(17, 99, 0)", fresh.x().cut(17, 99, 0), BAD);
        due.is("cut(0, 99, -2)", fresh.x().cut(0, 99, -2), BAD);
        due.is("cut(0, -1, 99)", fresh.x().cut(0, -1, 99), BAD);
        due.is("grafted(16, 17)", fresh.x().grafted(16, 17), BAD);
        due.is("grafted(17, 16)", fresh.x().grafted(17, 16), BAD);
    }
}
