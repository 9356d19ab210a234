/** Promises 7 to 15: loads, flows, composes, inverts, stretches, reverses, puts, undo, value. */
public final class RegisterPromises {
    private static final Due due = new Due();
    private static final int BAD = RootedCuts.BAD, STATE = RootedCuts.STATE;
    private static final long NEVER = RootedCuts.NEVER;
    private static final String EULER = "b 0 60;";
    private static final String MIDPOINT = "a 0 0 30; b 0 60;";
    private static final int[] NODES = {1, 2, 3, 3, 4, 4, 4, 4, 5, 5, 5, 5, 5, 5, 5, 5, 5};
    private static final long[] FLOW = {
        60, 1800, 72000, 36000, 3240000, 1620000, 1080000, 540000, 155520000, 77760000, 38880000,
        51840000, 25920000, 38880000, 19440000, 12960000, 6480000};

    public static void main(String[] args) {
        loads();
        loadsOfTwoStages();
        loadsOfFourStages();
        flows();
        composes();
        composesOntoItself();
        inverts();
        stretches();
        reverses();
        puts();
        undo();
        undoOfEach();
        undoOfWhatWasTheSame();
        value();
        wraps();
        due.end();
    }

    private static void registerIs(String what, RootedCuts x, int r, long[] want) {
        for (int t = 0; t < 17; t++) {
            due.is(what + ": value(" + r + ", " + t + ")", x.value(r, t), want[t]);
        }
    }

    private static long[] filled(int... firsts) {
        long[] numbers = new long[17];
        for (int i = 0; i < firsts.length; i++) {
            numbers[i] = firsts[i];
        }
        return numbers;
    }

    private static void loads() {
        RootedCuts x = new RootedCuts();
        due.is("loads(0) of a new METHOD", x.loads(0), 0);
        Due.tell(x, EULER);
        due.is("loads(1) of EULER", x.loads(1), 1);
        registerIs("EULER", x, 1, filled(60));
        Due.tell(x, MIDPOINT);
        due.is("loads(5) of MIDPOINT", x.loads(5), 2);
        long[] midpoint = new long[17];
        for (int t = 0; t < 17; t++) {
            midpoint[t] = 60;
            for (int n = 1; n < NODES[t]; n++) {
                midpoint[t] *= 30;
            }
        }
        registerIs("MIDPOINT", x, 5, midpoint);
        registerIs("EULER stays", x, 1, filled(60));
        due.is("loads(-1)", x.loads(-1), BAD);
        due.is("loads(6)", x.loads(6), BAD);
        due.is("loads(MIN)", x.loads(Integer.MIN_VALUE), BAD);
        due.is("UNDONE behind it", x.count(3), 5);
    }

    /** All of a and b differ, so that no two of them can be taken for one another. */
    private static void loadsOfTwoStages() {
        RootedCuts x = new RootedCuts();
        Due.tell(x, "s 2; a 0 0 1; a 0 1 2; a 1 0 3; a 1 1 -5; b 0 7; b 1 11;");
        due.is("loads(2)", x.loads(2), 0);
        // c0 = 3, c1 = -2; a c: 0: 3 - 4 = -1, 1: 9 + 10 = 19.
        long[] w0 = {1, 3, 9, -1, 27, -3, 9 + 2 * 4, -1 + 2 * 19};
        long[] w1 = {1, -2, 4, 19, -8, -38, 3 * 9 - 5 * 4, 3 * -1 - 5 * 19};
        for (int t = 0; t < 8; t++) {
            due.is("value(2, " + t + ") of two STAGES", x.value(2, t), 7 * w0[t] + 11 * w1[t]);
        }
        int[][] five = {{8, 81, 16}, {9, -9, 76}, {10, 1, 361}, {11, 17 * 3, 7 * -2}, {12, 37 * 3, -98 * -2}};
        for (int[] f : five) {
            due.is("value(2, " + f[0] + ") of two STAGES", x.value(2, f[0]), 7L * f[1] + 11L * f[2]);
        }
        for (int t = 4; t < 8; t++) {
            long v0 = w0[t] + 2 * w1[t];
            long v1 = 3 * w0[t] - 5 * w1[t];
            due.is("value(2, " + (t + 9) + ") of two STAGES", x.value(2, t + 9), 7 * v0 + 11 * v1);
        }
    }

    /** The classical Runge-Kutta method, then each STAGE's b by itself. */
    private static void loadsOfFourStages() {
        RootedCuts x = new RootedCuts();
        Due.tell(x, "s 4; a 1 0 30; a 2 1 30; a 3 2 60; b 0 10; b 1 20; b 2 20; b 3 10;");
        due.is("loads(0)", x.loads(0), 4);
        due.is("FAILS", x.order(0, 1), 8);
        // c is 0, 30, 30, 60: to the fourth, weighed with b.
        due.is("value(0, 8)", x.value(0, 8), 2 * 20 * 810000 + 10 * 12960000);
        due.is("value(0, 16)", x.value(0, 16), 0);
        Due.tell(x, "s 4; a 3 3 2; a 3 0 1; b 3 5;");
        due.is("loads(1)", x.loads(1), 0);
        due.is("value(1, 1)", x.value(1, 1), 15);
        due.is("value(1, 3)", x.value(1, 3), 5 * 2 * 3);
        due.is("value(1, 16)", x.value(1, 16), 5 * 8 * 3);
    }

    private static void flows() {
        RootedCuts x = new RootedCuts();
        for (int r = 0; r < 6; r++) {
            due.is("flows(" + r + ")", x.flows(r), 1);
            registerIs("FLOW", x, r, FLOW);
            due.is("flows(" + r + ") once more", x.flows(r), STATE);
        }
        due.is("flows(-1)", x.flows(-1), BAD);
        due.is("flows(6)", x.flows(6), BAD);
        due.is("flows(MAX)", x.flows(Integer.MAX_VALUE), BAD);
        due.is("UNDONE behind it", x.count(3), 6);
        x.puts(3, 16, 6480001);
        due.is("flows(3) when one number is another one", x.flows(3), 1);
        x.puts(3, 16, 0);
        due.is("puts it there again", x.puts(3, 16, 6480000), 1);
        due.is("flows(3) when puts() has made it that", x.flows(3), STATE);
    }

    private static void composes() {
        RootedCuts x = new RootedCuts();
        Due.tell(x, EULER);
        x.loads(0);
        Due.tell(x, MIDPOINT);
        x.loads(1);
        due.is("composes(2, 0, 1)", x.composes(2, 0, 1), 0);
        due.is("composes(3, 1, 0)", x.composes(3, 1, 0), 0);
        due.is("value(2, 1)", x.value(2, 1), 5400);
        due.is("value(2, 2)", x.value(2, 2), 486000);
        due.is("value(2, 3)", x.value(2, 3), 162000);
        due.is("value(3, 1)", x.value(3, 1), 5400);
        due.is("value(3, 2)", x.value(3, 2), 270000);
        due.is("value(3, 3)", x.value(3, 3), 162000);
        due.is("composes(2, 4, 1): 4 has 0 for all", x.composes(2, 4, 1), 2);
        due.is("it is 1 then", x.like(2, 1), 5);
        due.is("composes(2, 1, 4)", x.composes(2, 1, 4), 2);
        due.is("it is 1 then, too", x.like(2, 1), 5);
        due.is("composes(-1, 0, 0)", x.composes(-1, 0, 0), BAD);
        due.is("composes(6, 0, 0)", x.composes(6, 0, 0), BAD);
        due.is("composes(0, -1, 0)", x.composes(0, -1, 0), BAD);
        due.is("composes(0, 6, 0)", x.composes(0, 6, 0), BAD);
        due.is("composes(0, 0, -1)", x.composes(0, 0, -1), BAD);
        due.is("composes(0, 0, 6)", x.composes(0, 0, 6), BAD);
        due.is("value(0, 0) behind what was refused", x.value(0, 0), 60);
        x.flows(0);
        x.stretches(1, 0, -1);
        x.stretches(2, 0, 2);
        due.is("composes(3, 2, 1): two steps there, one back", x.composes(3, 2, 1), 5);
        due.is("composes(3, 0, 0): two steps there", x.composes(3, 0, 0), 0);
        due.is("are a step twice as long", x.like(3, 2), 5);
    }

    private static void composesOntoItself() {
        RootedCuts x = new RootedCuts();
        Due.tell(x, EULER);
        x.loads(0);
        Due.tell(x, MIDPOINT);
        x.loads(1);
        x.composes(2, 0, 1);
        x.composes(3, 0, 1);
        x.composes(4, 0, 0);
        x.loads(5);
        due.is("composes(5, 0, 5)", x.composes(5, 0, 5), 0);
        due.is("is composes(2, 0, 1)", x.like(5, 2), 5);
        x.loads(5);
        x.composes(2, 1, 0);
        due.is("composes(5, 5, 0)", x.composes(5, 5, 0), 0);
        due.is("is composes(2, 1, 0)", x.like(5, 2), 5);
        due.is("composes(0, 0, 0)", x.composes(0, 0, 0), 0);
        due.is("is composes(4, 0, 0)", x.like(0, 4), 5);
    }

    private static void inverts() {
        RootedCuts x = new RootedCuts();
        x.flows(0);
        due.is("inverts(1, 0)", x.inverts(1, 0), 0);
        x.stretches(2, 0, -1);
        due.is("the INVERSE of the FLOW goes back", x.like(1, 2), 5);
        Due.tell(x, EULER);
        x.loads(3);
        due.is("inverts(4, 3)", x.inverts(4, 3), 0);
        // The implicit Euler method, backwards: -60 to the NODES.
        long[] back = new long[17];
        for (int t = 0; t < 17; t++) {
            back[t] = 1;
            for (int n = 0; n < NODES[t]; n++) {
                back[t] *= -60;
            }
        }
        registerIs("INVERSE of EULER", x, 4, back);
        due.is("inverts(4, 4)", x.inverts(4, 4), 1);
        due.is("is EULER again", x.like(4, 3), 5);
        for (int t = 0; t < 17; t++) {
            x.puts(5, t, 1000003 * t - 77);
        }
        x.inverts(1, 5);
        x.composes(2, 5, 1);
        registerIs("PRODUCT with the INVERSE", x, 2, new long[17]);
        x.composes(2, 1, 5);
        registerIs("PRODUCT of the INVERSE", x, 2, new long[17]);
        due.is("inverts(0, -1)", x.inverts(0, -1), BAD);
        due.is("inverts(0, 6)", x.inverts(0, 6), BAD);
        due.is("inverts(-1, 0)", x.inverts(-1, 0), BAD);
        due.is("inverts(6, 0)", x.inverts(6, 0), BAD);
        due.is("order(0, 0) behind what was refused", x.order(0, 0), 5);
        RootedCuts y = new RootedCuts();
        y.flows(0);
        y.stretches(0, 0, -1);
        due.is("inverts(1, 0) of the FLOW backwards", y.inverts(1, 0), 5);
    }

    private static void stretches() {
        RootedCuts x = new RootedCuts();
        for (int t = 0; t < 17; t++) {
            x.puts(0, t, t + 1);
        }
        for (int h = -3; h <= 3; h++) {
            due.is("stretches(1, 0, " + h + ")", x.stretches(1, 0, h), 0);
            for (int t = 0; t < 17; t++) {
                long want = t + 1;
                for (int n = 0; n < NODES[t]; n++) {
                    want *= h;
                }
                due.is("by " + h + ": value(1, " + t + ")", x.value(1, t), want);
            }
        }
        due.is("stretches(0, 0, -2)", x.stretches(0, 0, -2), 0);
        due.is("value(0, 16) onto itself", x.value(0, 16), -544);
        due.is("stretches(0, 0, 4)", x.stretches(0, 0, 4), BAD);
        due.is("stretches(0, 0, -4)", x.stretches(0, 0, -4), BAD);
        due.is("stretches(0, 0, MIN)", x.stretches(0, 0, Integer.MIN_VALUE), BAD);
        due.is("stretches(-1, 0, 1)", x.stretches(-1, 0, 1), BAD);
        due.is("stretches(6, 0, 1)", x.stretches(6, 0, 1), BAD);
        due.is("stretches(0, -1, 1)", x.stretches(0, -1, 1), BAD);
        due.is("stretches(0, 6, 1)", x.stretches(0, 6, 1), BAD);
        due.is("value(0, 16) behind what was refused", x.value(0, 16), -544);
        x.flows(2);
        due.is("stretches(3, 2, 1) of the FLOW", x.stretches(3, 2, 1), 5);
        due.is("stretches(3, 2, 2) of the FLOW", x.stretches(3, 2, 2), 0);
        due.is("stretches(2, 2, 0) of the FLOW", x.stretches(2, 2, 0), 0);
        registerIs("by 0", x, 2, new long[17]);
    }

    private static void reverses() {
        RootedCuts x = new RootedCuts();
        x.flows(0);
        due.is("reverses(1, 0) of the FLOW", x.reverses(1, 0), 5);
        due.is("it is the FLOW", x.order(1, 0), 5);
        Due.tell(x, EULER);
        x.loads(2);
        due.is("reverses(3, 2) of EULER", x.reverses(3, 2), 1);
        // The implicit Euler method: 60 to the NODES.
        due.is("value(3, 3)", x.value(3, 3), 216000);
        due.is("value(3, 16)", x.value(3, 16), 777600000);
        due.is("reverses(3, 3) onto itself", x.reverses(3, 3), 1);
        registerIs("EULER again", x, 3, filled(60));
        Due.tell(x, MIDPOINT);
        x.loads(4);
        due.is("reverses(4, 4) of MIDPOINT", x.reverses(4, 4), 5);
        due.is("reverses(5, 5) of 0", x.reverses(5, 5), 5);
        due.is("UNDONE by it all the same", x.count(3), 6);
        due.is("reverses(-1, 0)", x.reverses(-1, 0), BAD);
        due.is("reverses(6, 0)", x.reverses(6, 0), BAD);
        due.is("reverses(0, -1)", x.reverses(0, -1), BAD);
        due.is("reverses(0, 6)", x.reverses(0, 6), BAD);
        // INVERSE of a CHARACTER that has 1 for TREE 2 alone has -1 there: 1 backwards.
        RootedCuts y = new RootedCuts();
        y.puts(0, 2, 1);
        due.is("reverses(1, 0)", y.reverses(1, 0), 5);
        due.is("value(1, 2)", y.value(1, 2), 1);
        due.is("value(1, 6): the CUT that leaves 0", y.value(1, 6), 0);
        y.puts(0, 0, 1);
        due.is("reverses(1, 0) with 1 for TREE 0", y.reverses(1, 0), 1);
        due.is("value(1, 1)", y.value(1, 1), 1);
    }

    private static void puts() {
        RootedCuts x = new RootedCuts();
        due.is("puts(0, 0, 0)", x.puts(0, 0, 0), STATE);
        due.is("puts(0, 0, MAX)", x.puts(0, 0, Integer.MAX_VALUE), 1);
        due.is("puts(5, 16, MIN)", x.puts(5, 16, Integer.MIN_VALUE), 1);
        due.is("value(0, 0)", x.value(0, 0), Integer.MAX_VALUE);
        due.is("value(5, 16)", x.value(5, 16), Integer.MIN_VALUE);
        due.is("value(0, 1)", x.value(0, 1), 0);
        due.is("value(1, 0)", x.value(1, 0), 0);
        due.is("puts(5, 16, MIN) once more", x.puts(5, 16, Integer.MIN_VALUE), STATE);
        due.is("puts(-1, 0, 0)", x.puts(-1, 0, 0), BAD);
        due.is("puts(6, 0, 0)", x.puts(6, 0, 0), BAD);
        due.is("puts(0, -1, 0)", x.puts(0, -1, 0), BAD);
        due.is("puts(0, 17, 0)", x.puts(0, 17, 0), BAD);
        due.is("puts(MAX, MIN, 0)", x.puts(Integer.MAX_VALUE, Integer.MIN_VALUE, 0), BAD);
        due.is("UNDONE", x.count(3), 2);
        // 2 to the 32 and 5 more: as an int it would be 5.
        x.puts(1, 0, 65536);
        x.puts(1, 1, 5);
        x.composes(1, 1, 1);
        due.is("value(1, 1), beyond an int", x.value(1, 1), 4294967306L);
        due.is("puts(1, 1, 10) is no STATE", x.puts(1, 1, 10), 1);
    }

    private static void undo() {
        RootedCuts x = new RootedCuts();
        due.is("undo() of nothing", x.undo(), STATE);
        for (int v = 1; v <= 8; v++) {
            x.puts(0, 0, v);
        }
        due.is("UNDONE, six at most", x.count(3), 6);
        for (int v = 7; v >= 2; v--) {
            due.is("undo()", x.undo(), v - 2);
            due.is("value(0, 0) then", x.value(0, 0), v);
        }
        due.is("undo() of what is lost", x.undo(), STATE);
        due.is("value(0, 0) as oldest known", x.value(0, 0), 2);
        x.puts(0, 0, 50);
        x.puts(0, 0, 51);
        due.is("undo() of the latest", x.undo(), 1);
        x.puts(0, 0, 52);
        due.is("UNDONE with a new one", x.count(3), 2);
        due.is("undo() of 52", x.undo(), 1);
        due.is("value(0, 0)", x.value(0, 0), 50);
        due.is("undo() of 50", x.undo(), 0);
        due.is("value(0, 0) at the end", x.value(0, 0), 2);
        due.is("count(3) at the end", x.count(3), 0);
    }

    private static void undoOfEach() {
        RootedCuts x = new RootedCuts();
        Due.tell(x, "s 2; a 1 0 30; b 1 60;");
        x.loads(0);
        x.flows(1);
        Due.tell(x, "b 0 60;");
        due.is("undo() of method()", x.undo(), 3);
        due.is("STAGES", x.count(0), 2);
        due.is("a 1 0", x.number(1, 0), 30);
        due.is("THE TEXT is not told again", x.count(2), 0);
        x.tells(1, 0, 31);
        x.undo();
        due.is("a 1 0 behind undo() of tells()", x.number(1, 0), 30);
        x.loads(1);
        x.undo();
        due.is("REGISTER 1 behind undo() of loads()", x.order(1, 0), 5);
        x.flows(0);
        x.undo();
        due.is("REGISTER 0 behind undo() of flows()", x.order(0, 0), 2);
        x.composes(1, 0, 0);
        x.undo();
        due.is("REGISTER 1 behind undo() of composes()", x.order(1, 0), 5);
        x.inverts(1, 1);
        x.undo();
        due.is("REGISTER 1 behind undo() of inverts()", x.order(1, 0), 5);
        x.stretches(1, 1, 0);
        x.undo();
        due.is("REGISTER 1 behind undo() of stretches()", x.order(1, 0), 5);
        x.reverses(1, 0);
        x.undo();
        due.is("REGISTER 1 behind undo() of reverses()", x.order(1, 0), 5);
        x.sees(0, 60);
        x.type('x');
        x.keep(0);
        x.undo();
        due.is("SEEN behind undo()", x.count(1), 1);
        due.is("letters behind undo()", x.count(2), 1);
        due.is("IMAGES behind undo()", x.back(0), 2);
        due.is("REGISTER 1 of the IMAGE", x.order(1, 0), 5);
    }

    /** Not refused, though all is as it was: it is UNDONE like any other. */
    private static void undoOfWhatWasTheSame() {
        RootedCuts x = new RootedCuts();
        x.loads(0);
        x.composes(0, 0, 0);
        x.inverts(0, 0);
        x.stretches(0, 0, 1);
        x.method();
        due.is("count(3)", x.count(3), 5);
        x.loads(9);
        x.tells(0, 0, 0);
        x.puts(0, 0, 0);
        x.type('x');
        x.method();
        due.is("count(3) behind what was refused", x.count(3), 5);
    }

    private static void value() {
        RootedCuts x = new RootedCuts();
        x.puts(5, 16, 3);
        due.is("value(5, 16)", x.value(5, 16), 3);
        due.is("value(-1, 0)", x.value(-1, 0), NEVER);
        due.is("value(6, 0)", x.value(6, 0), NEVER);
        due.is("value(0, -1)", x.value(0, -1), NEVER);
        due.is("value(0, 17)", x.value(0, 17), NEVER);
        due.is("value(MIN, MAX)", x.value(Integer.MIN_VALUE, Integer.MAX_VALUE), NEVER);
    }

    private static void wraps() {
        RootedCuts x = new RootedCuts();
        x.puts(0, 0, 1 << 30);
        x.puts(0, 1, 1 << 30);
        x.composes(0, 0, 0);
        // 2^31 and 2^60 + 2^31 now; squared once more, TREE 1 has 2^62 + 2 (2^60 + 2^31).
        x.composes(0, 0, 0);
        due.is("value(0, 0)", x.value(0, 0), 1L << 32);
        due.is("value(0, 1)", x.value(0, 1), (1L << 62) + (1L << 61) + (1L << 32));
        x.composes(0, 0, 0);
        due.is("value(0, 1) wrapped: 2^64 is 0", x.value(0, 1), -(1L << 62) + (1L << 33));
        x.composes(0, 0, 0);
        due.is("value(0, 0)", x.value(0, 0), 1L << 34);
        due.is("value(0, 1) wrapped again", x.value(0, 1), Long.MIN_VALUE + (1L << 34));
    }
}
