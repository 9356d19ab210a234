import java.math.BigInteger;

/** The document's sentences about REGISTERS, their numbers and what is UNDONE, at their edges. */
public final class RegisterEdges {
    private static final int BAD = RootedCuts.BAD, STATE = RootedCuts.STATE;
    private static final long NEVER = RootedCuts.NEVER;
    private static final int[] NO_REGISTERS = {-1, 6, -6, 7, Integer.MIN_VALUE, Integer.MAX_VALUE};
    private static final int[] NO_TREES = {-1, 17, -17, 18, Integer.MIN_VALUE, Integer.MAX_VALUE};
    private static final int[] NODES = {1, 2, 3, 3, 4, 4, 4, 4, 5, 5, 5, 5, 5, 5, 5, 5, 5};
    private static final int[] FLOW = {
        60, 1800, 72000, 36000, 3240000, 1620000, 1080000, 540000, 155520000, 77760000, 38880000,
        51840000, 25920000, 38880000, 19440000, 12960000, 6480000};
    private static final Due due = new Due();

    public static void main(String[] args) {
        allZeroAtFirst();
        registersZeroToFive();
        registersThatThereAreNot();
        treesThatThereAreNot();
        putsFromEdgeToEdge();
        putsWhatItHas();
        valuesFromEdgeToEdge();
        neverAsANumber();
        stretchFromEdgeToEdge();
        flowsWhatItIs();
        ordersThatAreAnswered();
        ordersOfLoads();
        oneWithoutChildren();
        oneOfNoTrees();
        eachAsItIsAheadOfThat();
        likeAsItWas();
        sumsWrap();
        differencesWrap();
        productsWrap();
        longsAreComparedWhole();
        sixAreKnown();
        sixOfEachKind();
        manyMoreThanSix();
        refusedIsNotUndone();
        theLastOf512Calls();
        due.end();
    }

    private static void allZeroAtFirst() {
        due.by("REGISTERS 0 to 5 hold CHARACTERS (all numbers 0 at first).");
        RootedCuts x = new RootedCuts();
        for (int r = 0; r < 6; r++) {
            for (int t = 0; t < 17; t++) {
                due.is("value(" + r + ", " + t + ")", x.value(r, t), 0);
            }
        }
    }

    private static void registersZeroToFive() {
        due.by("REGISTERS 0 to 5 hold CHARACTERS");
        for (int r = 0; r < 6; r++) {
            RootedCuts x = new RootedCuts();
            due.is("puts", x.puts(r, 16, r + 1), 1);
            due.is("loads", x.loads(r), 0);
            due.is("flows", x.flows(r), 1);
            due.is("composes", x.composes(r, r, r), 0);
            due.is("inverts", x.inverts(r, r), 0);
            due.is("stretches", x.stretches(r, r, 1), 0);
            due.is("reverses", x.reverses(r, r), 5);
            due.is("like", x.like(r, r), 5);
            due.is("order", x.order(r, 0), 0);
            for (int other = 0; other < 6; other++) {
                due.is("value(" + other + ", 0) behind all that was done to " + r, x.value(other, 0), other == r ? -120 : 0);
            }
        }
    }

    private static void registersThatThereAreNot() {
        due.by("BAD (a number is not as told, or there is no such thing)");
        for (int r : NO_REGISTERS) {
            RootedCuts x = new RootedCuts();
            due.is("loads(" + r + ")", x.loads(r), BAD);
            due.is("flows(" + r + ")", x.flows(r), BAD);
            due.is("composes r " + r, x.composes(r, 0, 0), BAD);
            due.is("composes p " + r, x.composes(0, r, 0), BAD);
            due.is("composes q " + r, x.composes(0, 0, r), BAD);
            due.is("inverts r " + r, x.inverts(r, 0), BAD);
            due.is("inverts p " + r, x.inverts(0, r), BAD);
            due.is("stretches r " + r, x.stretches(r, 0, 0), BAD);
            due.is("stretches p " + r, x.stretches(0, r, 0), BAD);
            due.is("reverses r " + r, x.reverses(r, 0), BAD);
            due.is("reverses p " + r, x.reverses(0, r), BAD);
            due.is("puts(" + r + ", 0, 1)", x.puts(r, 0, 1), BAD);
            due.is("value(" + r + ", 0)", x.value(r, 0), NEVER);
            for (int what = 0; what < 3; what++) {
                due.is("order(" + r + ", " + what + ")", x.order(r, what), BAD);
            }
            due.is("like p " + r, x.like(r, 0), BAD);
            due.is("like q " + r, x.like(0, r), BAD);
            due.is("UNDONE behind all of these", x.count(3), 0);
        }
    }

    private static void treesThatThereAreNot() {
        due.by("TREES are all those of 1 to 5 NODES, numbered 0 to 16");
        for (int t : NO_TREES) {
            RootedCuts x = new RootedCuts();
            due.is("puts(0, " + t + ", 1)", x.puts(0, t, 1), BAD);
            due.is("puts(0, " + t + ", 0)", x.puts(0, t, 0), BAD);
            due.is("value(0, " + t + ")", x.value(0, t), NEVER);
            due.is("UNDONE", x.count(3), 0);
        }
    }

    private static void putsFromEdgeToEdge() {
        due.by("REGISTER r has v for a TREE: 1.");
        for (int r = 0; r <= 5; r += 5) {
            for (int t = 0; t <= 16; t += 16) {
                for (int v : new int[] {Integer.MIN_VALUE, -1, 1, Integer.MAX_VALUE}) {
                    RootedCuts x = new RootedCuts();
                    due.is("puts(" + r + ", " + t + ", " + v + ")", x.puts(r, t, v), 1);
                    due.is("value(" + r + ", " + t + ")", x.value(r, t), v);
                    due.is("value of its neighbour", x.value(r, t == 0 ? 1 : 15), 0);
                    due.is("value of the other REGISTER", x.value(5 - r, t), 0);
                }
            }
        }
    }

    private static void putsWhatItHas() {
        due.by("REGISTER r has v for a TREE: 1. BAD; STATE: it has.");
        RootedCuts x = new RootedCuts();
        due.is("puts(0, 0, 0) at first", x.puts(0, 0, 0), STATE);
        due.is("puts(5, 16, 0) at first", x.puts(5, 16, 0), STATE);
        due.is("puts(0, 17, 0): BAD is ahead of STATE", x.puts(0, 17, 0), BAD);
        due.is("puts(6, 0, 0): BAD is ahead of STATE", x.puts(6, 0, 0), BAD);
        due.is("UNDONE", x.count(3), 0);
        x.flows(2);
        for (int t = 0; t < 17; t++) {
            due.is("puts(2, " + t + ") of the FLOW", x.puts(2, t, FLOW[t]), STATE);
        }
        due.is("puts(2, 16) of one more", x.puts(2, 16, FLOW[16] + 1), 1);
        due.is("UNDONE", x.count(3), 2);
    }

    private static void valuesFromEdgeToEdge() {
        due.by("What REGISTER r has for a TREE. NEVER: BAD.");
        RootedCuts x = new RootedCuts();
        for (int r = 0; r < 6; r++) {
            x.puts(r, 0, r + 1);
            x.puts(r, 16, -r - 1);
        }
        for (int r = -1; r <= 6; r++) {
            for (int t = -1; t <= 17; t++) {
                long want = r < 0 || r > 5 || t < 0 || t > 16 ? NEVER : t == 0 ? r + 1 : t == 16 ? -r - 1 : 0;
                due.is("value(" + r + ", " + t + ")", x.value(r, t), want);
            }
        }
    }

    /** -9 times 10 to the 18 is what stands for BAD, and is a number like any other, too. */
    private static void neverAsANumber() {
        due.by("What is BAD where any long may be an answer.");
        RootedCuts x = withNumber(NEVER);
        due.is("value(0, 0)", x.value(0, 0), NEVER);
        x.sees(0, NEVER);
        due.is("which()", x.which(), 1);
        due.is("value(0, 17)", x.value(0, 17), NEVER);
        due.is("value(0, 16)", x.value(0, 16), 0);
    }

    /** An object whose REGISTER 0 has that number for TREE 0, where PRODUCTS are sums. */
    private static RootedCuts withNumber(long number) {
        RootedCuts x = new RootedCuts();
        for (int bit = 62; bit >= 0; bit--) {
            x.composes(0, 0, 0);
            if ((number >> bit & 1) != 0) {
                x.puts(1, 0, 1);
                x.composes(0, 0, 1);
            }
        }
        for (int t = 1; t < 17; t++) {
            x.puts(0, t, 0);
        }
        if (number < 0 && x.value(0, 0) != number) {
            addTopBit(x);
        }
        if (x.value(0, 0) != number) {
            throw new IllegalStateException("no way to " + number);
        }
        return x;
    }

    private static void addTopBit(RootedCuts x) {
        x.puts(2, 0, 1 << 30);
        for (int n = 30; n < 63; n++) {
            x.stretches(2, 2, 2);
        }
        x.composes(0, 0, 2);
        for (int t = 1; t < 17; t++) {
            x.puts(0, t, 0);
        }
    }

    private static void stretchFromEdgeToEdge() {
        due.by("REGISTER r becomes REGISTER p STRETCHED by h (-3 .. 3): ORDER of it then. BAD.");
        for (int h = -3; h <= 3; h++) {
            RootedCuts x = new RootedCuts();
            x.flows(5);
            due.is("stretches(0, 5, " + h + ")", x.stretches(0, 5, h), h == 1 ? 5 : 0);
            for (int t = 0; t < 17; t++) {
                due.is("value(0, " + t + ") by " + h, x.value(0, t), BigInteger.valueOf(h).pow(NODES[t]).longValue() * FLOW[t]);
            }
        }
        RootedCuts x = new RootedCuts();
        x.flows(0);
        for (int h : new int[] {-4, 4, -5, 5, Integer.MIN_VALUE, Integer.MAX_VALUE, 256, 65537}) {
            due.is("stretches(0, 0, " + h + ")", x.stretches(0, 0, h), BAD);
            due.is("ORDER behind it", x.order(0, 0), 5);
        }
        due.is("UNDONE", x.count(3), 1);
    }

    private static void flowsWhatItIs() {
        due.by("REGISTER r becomes the FLOW: 1. BAD; STATE: it is that.");
        for (int t = 0; t < 17; t++) {
            RootedCuts x = new RootedCuts();
            due.is("flows(3)", x.flows(3), 1);
            due.is("flows(3) once more", x.flows(3), STATE);
            x.puts(3, t, FLOW[t] + 1);
            due.is("flows(3), TREE " + t + " another", x.flows(3), 1);
            due.is("value(3, " + t + ")", x.value(3, t), FLOW[t]);
            x.puts(3, t, FLOW[t] - 1);
            x.puts(3, t, FLOW[t]);
            due.is("flows(3), TREE " + t + " as it was", x.flows(3), STATE);
            due.is("UNDONE", x.count(3), 5);
        }
        RootedCuts y = new RootedCuts();
        y.flows(0);
        y.composes(1, 0, 5);
        y.stretches(2, 0, 1);
        y.reverses(3, 0);
        for (int r = 0; r < 4; r++) {
            due.is("flows(" + r + "), made in another way", y.flows(r), STATE);
        }
        due.is("UNDONE", y.count(3), 4);
        y.inverts(4, 0);
        due.is("flows(4) of the FLOW backwards", y.flows(4), 1);
    }

    /** REGISTER 0 is the FLOW but for TREE t. */
    private static RootedCuts wrongAt(int t) {
        RootedCuts x = new RootedCuts();
        x.flows(0);
        x.puts(0, t, FLOW[t] + 1);
        return x;
    }

    private static void ordersThatAreAnswered() {
        due.by("ORDER of a REGISTER: the greatest n (0 to 5) so that it has the FLOW's numbers for all TREES of 1 to n NODES.");
        for (int t = 0; t < 17; t++) {
            int want = NODES[t] - 1;
            String wrong = ", TREE " + t + " wrong";
            due.is("composes(1, 2, 0)" + wrong, wrongAt(t).composes(1, 2, 0), want);
            due.is("composes(1, 0, 2)" + wrong, wrongAt(t).composes(1, 0, 2), want);
            due.is("stretches(0, 0, 1)" + wrong, wrongAt(t).stretches(0, 0, 1), want);
            RootedCuts x = wrongAt(t);
            x.inverts(1, 0);
            due.is("inverts(1, 1)" + wrong, x.inverts(1, 1), want);
            due.is("LIKE of it and what it is made of" + wrong, x.like(1, 0), 5);
        }
        RootedCuts x = new RootedCuts();
        x.flows(0);
        due.is("composes(1, 2, 0)", x.composes(1, 2, 0), 5);
        due.is("stretches(1, 0, 1)", x.stretches(1, 0, 1), 5);
        x.inverts(1, 0);
        due.is("inverts(1, 1)", x.inverts(1, 1), 5);
    }

    private static void ordersOfLoads() {
        due.by("REGISTER r becomes WEIGHT of the METHOD: ORDER of it then. BAD.");
        String[] methods = {
            "b 0 59;", "b 0 60;", "a 0 0 30; b 0 60;", "s 3; a 1 0 30; a 2 0 -60; a 2 1 120; b 0 10; b 1 40; b 2 10;",
            "s 4; a 1 0 20; a 2 0 -20; a 2 1 60; a 3 0 60; a 3 1 -60; a 3 2 60; b 0 7; b 1 23; b 2 23; b 3 7;",
            "s 4; a 1 0 30; a 2 1 30; a 3 2 60; b 0 10; b 1 20; b 2 20; b 3 10;"};
        // The fifth has 7, 23, 23, 7 for 7.5, 22.5, 22.5, 7.5: with c = 0, 20, 40, 60 that is 60, 1800, but not 72000.
        int[] orders = {0, 1, 2, 3, 2, 4};
        for (int i = 0; i < methods.length; i++) {
            RootedCuts x = new RootedCuts();
            Due.tell(x, methods[i]);
            due.is("loads(5) of " + methods[i], x.loads(5), orders[i]);
            due.is("loads(6) of " + methods[i], x.loads(6), BAD);
        }
        due.is("loads(0) of a METHOD told as 0", new RootedCuts().loads(0), 0);
        RootedCuts x = new RootedCuts();
        Due.tell(x, "s 4; a 0 0 600; a 0 1 600; a 0 2 600; a 0 3 600; b 0 600;");
        x.loads(0);
        // 600 times (600 times the one that is not 0) to the fourth: no int holds it.
        due.is("value(0, 8)", x.value(0, 8), 600L * 2400 * 2400 * 2400 * 2400);
        due.is("value(0, 16)", x.value(0, 16), 600L * 2400 * 600 * 600 * 600);
    }

    private static void oneWithoutChildren() {
        due.by("of the sum, for all STAGES k, of a j k times w k of c (1 without CHILDREN).");
        for (int stages = 1; stages <= 4; stages++) {
            RootedCuts x = new RootedCuts();
            Due.tell(x, "s " + stages + ";");
            for (int j = 0; j < stages; j++) {
                x.tells(j, -1, 600);
            }
            x.loads(0);
            due.is("TREE 0: b of all " + stages + " STAGES", x.value(0, 0), 600 * stages);
            for (int t = 1; t < 17; t++) {
                due.is("TREE " + t + ", a all 0", x.value(0, t), 0);
            }
        }
    }

    private static void oneOfNoTrees() {
        due.by("of a row of TREES (a FOREST) it has the product of its numbers of them (1 of none).");
        RootedCuts x = new RootedCuts();
        for (int t = 0; t < 17; t++) {
            x.puts(0, t, 3 * t - 20);
        }
        x.composes(1, 5, 0);
        due.is("nothing, then REGISTER 0", x.like(1, 0), 5);
        x.composes(1, 0, 5);
        due.is("REGISTER 0, then nothing", x.like(1, 0), 5);
        x.inverts(2, 5);
        due.is("INVERSE of nothing", x.like(2, 5), 5);
        x.reverses(2, 5);
        due.is("OTHER WAY ROUND of nothing", x.like(2, 5), 5);
    }

    private static void eachAsItIsAheadOfThat() {
        due.by("REGISTER r becomes the PRODUCT of REGISTERS p, q (each as it is ahead of that)");
        int[][] rpq = {{0, 0, 1}, {1, 0, 1}, {0, 1, 0}, {1, 1, 0}, {0, 0, 0}, {1, 1, 1}};
        for (int[] c : rpq) {
            RootedCuts x = new RootedCuts();
            for (int t = 0; t < 17; t++) {
                x.puts(0, t, 7 * t + 1);
                x.puts(1, t, 5 - t * t);
            }
            x.composes(2, c[1], c[2]);
            x.composes(c[0], c[1], c[2]);
            due.is("composes onto itself", x.like(2, c[0]), 5);
        }
        RootedCuts x = new RootedCuts();
        for (int t = 0; t < 17; t++) {
            x.puts(0, t, 7 * t + 1);
        }
        x.inverts(1, 0);
        x.stretches(2, 0, -3);
        x.reverses(3, 0);
        x.inverts(0, 0);
        due.is("inverts onto itself", x.like(0, 1), 5);
        x.undo();
        x.stretches(0, 0, -3);
        due.is("stretches onto itself", x.like(0, 2), 5);
        x.undo();
        x.reverses(0, 0);
        due.is("reverses onto itself", x.like(0, 3), 5);
    }

    private static void likeAsItWas() {
        due.by("REGISTER r becomes the OTHER WAY ROUND of REGISTER p: LIKE of it (then) and p as it was. BAD.");
        // 1 for TREE t alone: the INVERSE has -1 there, turned to 1 again by an odd number of NODES. (TREE 0's has 1 for TREE 1, too.)
        for (int t = 0; t < 17; t++) {
            int want = NODES[t] % 2 == 0 ? NODES[t] - 1 : t == 0 ? 1 : 5;
            RootedCuts x = new RootedCuts();
            x.puts(0, t, 1);
            due.is("reverses(1, 0) with TREE " + t + " alone", x.reverses(1, 0), want);
            due.is("reverses(0, 0) with TREE " + t + " alone", x.reverses(0, 0), want);
            due.is("LIKE of both", x.like(0, 1), 5);
        }
    }

    // ---- Java's longs

    private static void sumsWrap() {
        due.by("Numbers of CHARACTERS are Java's longs (sums, differences, products may wrap).");
        RootedCuts x = withNumber(Long.MAX_VALUE);
        x.puts(1, 0, 1);
        x.puts(3, 0, -1);
        x.composes(4, 0, 1);
        due.is("the greatest and 1", x.value(4, 0), Long.MIN_VALUE);
        x.composes(5, 4, 3);
        due.is("the least and -1", x.value(5, 0), Long.MAX_VALUE);
        x.composes(5, 0, 0);
        due.is("the greatest twice", x.value(5, 0), -2);
        x.composes(5, 4, 4);
        due.is("the least twice", x.value(5, 0), 0);
    }

    private static void differencesWrap() {
        due.by("Numbers of CHARACTERS are Java's longs (sums, differences, products may wrap).");
        RootedCuts x = withNumber(Long.MIN_VALUE);
        due.is("inverts(3, 0)", x.inverts(3, 0), 0);
        due.is("0 less the least", x.value(3, 0), Long.MIN_VALUE);
        x.composes(4, 0, 3);
        due.is("its PRODUCT with the INVERSE, LIKE nothing", x.like(4, 5), 5);
        due.is("reverses(3, 0)", x.reverses(3, 0), 5);
        RootedCuts y = withNumber(Long.MAX_VALUE);
        y.puts(0, 1, 1);
        y.inverts(3, 0);
        due.is("0 less the greatest", y.value(3, 0), -Long.MAX_VALUE);
        // MAX times MAX is 1; 1 less 1.
        due.is("TREE 1 of it", y.value(3, 1), 0);
        y.composes(4, 0, 3);
        due.is("its PRODUCT with the INVERSE, LIKE nothing", y.like(4, 5), 5);
        y.composes(4, 3, 0);
        due.is("PRODUCT of the INVERSE with it, LIKE nothing", y.like(4, 5), 5);
    }

    private static void productsWrap() {
        due.by("Numbers of CHARACTERS are Java's longs (sums, differences, products may wrap).");
        for (int h : new int[] {2, 3, -3}) {
            RootedCuts x = new RootedCuts();
            x.puts(0, 16, 5);
            x.puts(0, 0, 1 << 30);
            for (int n = 1; n <= 40; n++) {
                due.is("stretches(0, 0, " + h + ")", x.stretches(0, 0, h), 0);
                due.is("TREE 16, time " + n, x.value(0, 16), BigInteger.valueOf(h).pow(5 * n).multiply(BigInteger.valueOf(5)).longValue());
                due.is("TREE 0, time " + n, x.value(0, 0), BigInteger.valueOf(h).pow(n).shiftLeft(30).longValue());
            }
        }
        RootedCuts x = new RootedCuts();
        x.puts(0, 0, Integer.MIN_VALUE);
        x.composes(1, 0, 0);
        // TREE 8's first CUT has 2^31 to the fifth, the next four 2^31 to the fourth times p of TREE 1, which is 0.
        due.is("TREE 1: 2^62", x.value(1, 1), 1L << 62);
        due.is("TREE 2: -2^93 wraps", x.value(1, 2), 0);
        due.is("TREE 8: -2^155 wraps", x.value(1, 8), 0);
        x.puts(0, 0, Integer.MAX_VALUE);
        x.composes(1, 0, 0);
        due.is("TREE 2: (2^31 - 1)^3 wraps", x.value(1, 2), BigInteger.valueOf(Integer.MAX_VALUE).pow(3).longValue());
        due.is("TREE 8: (2^31 - 1)^5 wraps", x.value(1, 8), BigInteger.valueOf(Integer.MAX_VALUE).pow(5).longValue());
    }

    private static void longsAreComparedWhole() {
        due.by("Numbers of CHARACTERS are Java's longs");
        RootedCuts x = withNumber((1L << 32) + 60);
        x.flows(1);
        due.is("value(0, 0)", x.value(0, 0), 4294967356L);
        for (int t = 1; t < 17; t++) {
            x.puts(0, t, FLOW[t]);
        }
        due.is("ORDER", x.order(0, 0), 0);
        due.is("FAILS", x.order(0, 1), 0);
        due.is("LIKE", x.like(0, 1), 0);
        x.sees(0, 60);
        due.is("WHICH", x.which(), 2);
        due.is("puts(0, 0, 60)", x.puts(0, 0, 60), 1);
        due.is("ORDER then", x.order(0, 0), 5);
        x.undo();
        due.is("flows(0)", x.flows(0), 1);
    }

    // ---- undo

    private static void sixAreKnown() {
        due.by("UNDONE: how many more may be. STATE: none.");
        for (int done = 0; done <= 9; done++) {
            RootedCuts x = new RootedCuts();
            for (int v = 1; v <= done; v++) {
                x.puts(0, 0, v);
                due.is("how many may be UNDONE behind " + v, x.count(3), Math.min(v, 6));
            }
            int known = Math.min(done, 6);
            for (int n = 1; n <= known; n++) {
                due.is("undo() " + n + " of " + done, x.undo(), known - n);
                due.is("value(0, 0) then", x.value(0, 0), done - n);
                due.is("count(3) then", x.count(3), known - n);
            }
            due.is("undo() of none, of " + done, x.undo(), STATE);
            due.is("value(0, 0) at the end", x.value(0, 0), done - known);
            due.is("count(3) at the end", x.count(3), 0);
        }
    }

    /** Each call that can be UNDONE, so that no two of them leave the same. */
    private static void make(RootedCuts x, int kind, int n) {
        switch (kind) {
            case 0 -> Due.tell(x, "b 0 " + n + ";");
            case 1 -> x.tells(0, 0, n);
            case 2 -> {
                x.puts(0, 16, n);
                x.loads(0);
            }
            case 3 -> {
                x.puts(0, 16, n);
                x.flows(0);
            }
            case 4 -> x.composes(0, 0, 1);
            case 5 -> x.inverts(0, 0);
            case 6 -> x.stretches(0, 0, 2);
            case 7 -> x.reverses(0, 0);
            default -> x.puts(0, 0, n);
        }
    }

    private static String shown(RootedCuts x) {
        StringBuilder all = new StringBuilder();
        all.append(x.number(0, 0)).append(' ').append(x.number(0, -1));
        for (int t = 0; t < 17; t++) {
            all.append(' ').append(x.value(0, t));
        }
        return all.toString();
    }

    private static void sixOfEachKind() {
        due.by("METHOD and REGISTERS are as ahead of it (6 are known, older ones are lost).");
        for (int kind = 0; kind < 9; kind++) {
            RootedCuts x = new RootedCuts();
            Due.tell(x, "b 0 600;");
            x.puts(0, 0, 1);
            x.puts(0, 1, 1);
            x.puts(1, 0, 3);
            int calls = kind == 2 || kind == 3 ? 2 : 1;
            String[] ahead = new String[8];
            for (int n = 1; n <= 7; n++) {
                ahead[n] = shown(x);
                make(x, kind, n);
            }
            due.is("count(3) behind seven of kind " + kind, x.count(3), 6);
            for (int n = 7; n > 7 - 6 / calls; n--) {
                for (int i = 0; i < calls; i++) {
                    x.undo();
                }
                due.is("as ahead of number " + n + " of kind " + kind, shown(x).equals(ahead[n]) ? 1 : 0, 1);
            }
            due.is("count(3) at the end of kind " + kind, x.count(3), 0);
            due.is("undo() of no more of kind " + kind, x.undo(), STATE);
        }
    }

    private static void manyMoreThanSix() {
        due.by("(6 are known, older ones are lost)");
        RootedCuts x = new RootedCuts();
        for (int v = 1; v <= 100; v++) {
            x.puts(0, 0, v);
            if (v % 7 == 0) {
                due.is("undo()", x.undo(), 5);
                due.is("undo()", x.undo(), 4);
                due.is("value(0, 0), two UNDONE", x.value(0, 0), v - 2);
                x.puts(0, 0, v - 1);
                x.puts(0, 0, v);
                due.is("count(3)", x.count(3), 6);
            }
        }
        for (int n = 1; n <= 6; n++) {
            due.is("undo()", x.undo(), 6 - n);
            due.is("value(0, 0)", x.value(0, 0), 100 - n);
        }
        due.is("undo() of none", x.undo(), STATE);
    }

    private static void refusedIsNotUndone() {
        due.by("the latest method(), tells(), loads(), flows(), composes(), inverts(), stretches(), reverses(), puts() that was not refused");
        RootedCuts x = new RootedCuts();
        x.puts(0, 0, 1);
        x.puts(0, 0, 2);
        x.flows(1);
        x.flows(1);
        x.puts(0, 0, 2);
        x.tells(0, 0, 0);
        x.tells(0, 0, 601);
        x.loads(6);
        x.flows(6);
        x.composes(0, 0, 6);
        x.inverts(0, 6);
        x.stretches(0, 0, 4);
        x.reverses(0, 6);
        x.puts(0, 17, 0);
        x.type('x');
        due.is("method()", x.method(), -10);
        due.is("tree()", x.tree(), -10);
        due.is("back(0)", x.back(0), STATE);
        due.is("back(2)", x.back(2), BAD);
        due.is("count(3)", x.count(3), 3);
        due.is("undo()", x.undo(), 2);
        due.is("ORDER of 1", x.order(1, 0), 0);
        due.is("value(0, 0)", x.value(0, 0), 2);
        due.is("undo()", x.undo(), 1);
        due.is("value(0, 0)", x.value(0, 0), 1);
    }

    private static void theLastOf512Calls() {
        due.by("An object is used for at most 512 calls after it has been made");
        RootedCuts x = new RootedCuts();
        int calls = 0;
        for (int v = 1; v <= 502; v++) {
            x.puts(5, 16, v);
            calls++;
        }
        for (int n = 1; n <= 6; n++) {
            due.is("undo()", x.undo(), 6 - n);
            calls++;
        }
        due.is("value(5, 16)", x.value(5, 16), 496);
        due.is("undo()", x.undo(), STATE);
        due.is("flows(5)", x.flows(5), 1);
        due.is("the 512th call, order(5, 1)", x.order(5, 1), RootedCuts.NONE);
        due.is("calls", calls + 4, 512);
    }
}
