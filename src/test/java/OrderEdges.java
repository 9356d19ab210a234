/** The document's sentences about ORDERS, what was SEEN, IMAGES and counts, at their edges. */
public final class OrderEdges {
    private static final int BAD = RootedCuts.BAD, STATE = RootedCuts.STATE, FULL = RootedCuts.FULL, NONE = RootedCuts.NONE;
    private static final int MIN = Integer.MIN_VALUE, MAX = Integer.MAX_VALUE;
    private static final int[] NODES = {1, 2, 3, 3, 4, 4, 4, 4, 5, 5, 5, 5, 5, 5, 5, 5, 5};
    private static final Due due = new Due();

    public static void main(String[] args) {
        whatThereIsToAsk();
        orderAndFails();
        rightFurtherOnIsNoOrder();
        breaksOfOneNumber();
        breaksOfEachPair();
        breaksThatWrap();
        likeFromNoneToAll();
        sixAreSeen();
        badAheadOfFull();
        anyNumberIsSeen();
        whichFromNoneToAll();
        whichAsTheyAre();
        forgetFromNoneToAll();
        imagesZeroAndOne();
        noneWasKept();
        imagesKeepNothingElse();
        nothingIsUndoneBehindBack();
        imagesStandApart();
        keptAnew();
        counts();
        due.end();
    }

    // ---- order, like

    private static void whatThereIsToAsk() {
        due.by("ORDER (what = 0), FAILS (1; NONE), BREAKS (2; NONE). BAD.");
        RootedCuts x = new RootedCuts();
        x.flows(5);
        due.is("order(5, 0)", x.order(5, 0), 5);
        due.is("order(5, 1)", x.order(5, 1), NONE);
        due.is("order(5, 2)", x.order(5, 2), NONE);
        due.is("order(0, 0)", x.order(0, 0), 0);
        due.is("order(0, 1)", x.order(0, 1), 0);
        due.is("order(0, 2)", x.order(0, 2), NONE);
        for (int what : new int[] {-1, 3, -3, 4, MIN, MAX}) {
            for (int r = -1; r <= 6; r++) {
                due.is("order(" + r + ", " + what + ")", x.order(r, what), BAD);
            }
        }
    }

    private static void orderAndFails() {
        due.by("FAILS: the first TREE for which it has another one; NONE.");
        for (int t = 0; t < 17; t++) {
            for (int off = -1; off <= 1; off += 2) {
                RootedCuts x = new RootedCuts();
                x.flows(0);
                x.puts(0, t, (int) x.value(0, t) + off);
                due.is("ORDER, TREE " + t + " alone wrong", x.order(0, 0), NODES[t] - 1);
                due.is("FAILS, TREE " + t + " alone wrong", x.order(0, 1), t);
                x.puts(0, 16, 0);
                due.is("FAILS, TREE 16 wrong, too", x.order(0, 1), t);
                x.puts(0, 0, 0);
                due.is("FAILS, TREE 0 wrong, too", x.order(0, 1), 0);
                due.is("ORDER, TREE 0 wrong, too", x.order(0, 0), 0);
            }
        }
    }

    private static void rightFurtherOnIsNoOrder() {
        due.by("the greatest n (0 to 5) so that it has the FLOW's numbers for all TREES of 1 to n NODES");
        RootedCuts x = new RootedCuts();
        x.flows(0);
        x.puts(0, 2, 1);
        due.is("ORDER: 3 is right, 2 is not", x.order(0, 0), 2);
        x.undo();
        x.puts(0, 3, 1);
        due.is("ORDER: 2 is right, 3 is not", x.order(0, 0), 2);
        x.puts(0, 0, 1);
        due.is("ORDER: 0 is not right", x.order(0, 0), 0);
    }

    private static void breaksOfOneNumber() {
        due.by("BREAKS: the first u, then v, for which it is not so: 17 u and v; NONE.");
        // With 1 for TREE t alone: the first pair whose graft, one way or the other, is t. (Of 0: 0 with 0.)
        int[] want = {0, 0, 1, 1, 2, 3, 2, 3, 4, 5, 17 + 3, 6, 7, 4, 5, 6, 7};
        for (int t = 0; t < 17; t++) {
            RootedCuts x = new RootedCuts();
            due.is("BREAKS of 0 for all", x.order(0, 2), NONE);
            x.puts(0, t, 1);
            due.is("BREAKS with TREE " + t + " alone", x.order(0, 2), want[t]);
            x.undo();
            due.is("BREAKS behind undo()", x.order(0, 2), NONE);
        }
    }

    /** All pairs hold in the FLOW; one number changed breaks the first pair that has to do with it. */
    private static void breaksOfEachPair() {
        due.by("SYMPLECTIC: for all u, v that can be GRAFTED (u may be v)");
        int[] want = {0, 0, 1, 1, 2, 3, 2, 3, 4, 5, 17 + 3, 6, 7, 4, 5, 6, 7};
        for (int t = 0; t < 17; t++) {
            RootedCuts x = new RootedCuts();
            x.flows(0);
            x.puts(0, t, (int) x.value(0, t) + 1);
            due.is("BREAKS of the FLOW, TREE " + t + " another", x.order(0, 2), want[t]);
        }
        RootedCuts x = new RootedCuts();
        // 0 with 3 holds, as 5 and 7 together are 0; twice 5 is not 1 squared.
        x.puts(0, 5, 1);
        x.puts(0, 7, -1);
        due.is("BREAKS, 1 with itself", x.order(0, 2), 17 + 1);
        RootedCuts y = new RootedCuts();
        y.puts(0, 0, 2);
        y.puts(0, 1, 2);
        y.puts(0, 2, 4);
        due.is("BREAKS, 0 with 2: 0 with itself, 0 with 1 hold", y.order(0, 2), 2);
        y.puts(0, 1, 3);
        due.is("BREAKS, 0 with itself", y.order(0, 2), 0);
        RootedCuts z = new RootedCuts();
        z.puts(0, 11, 1);
        z.puts(0, 15, -1);
        due.is("BREAKS, 1 with 2: 0 with 6 holds", z.order(0, 2), 17 + 2);
    }

    private static void breaksThatWrap() {
        due.by("Numbers of CHARACTERS are Java's longs (sums, differences, products may wrap).");
        RootedCuts x = new RootedCuts();
        x.puts(0, 0, 1 << 30);
        x.stretches(0, 0, 2);
        x.stretches(0, 0, 2);
        due.is("value(0, 0)", x.value(0, 0), 1L << 32);
        due.is("BREAKS: 2^32 squared is 0", x.order(0, 2), NONE);
        // 2^29 for TREE 1, four times as much each time: twice 2^63 is 0 as well.
        RootedCuts y = new RootedCuts();
        y.puts(0, 1, 1 << 29);
        for (int n = 0; n < 17; n++) {
            y.stretches(0, 0, 2);
        }
        due.is("value(0, 1)", y.value(0, 1), Long.MIN_VALUE);
        due.is("BREAKS: twice 2^63 is 0", y.order(0, 2), NONE);
        y.undo();
        due.is("BREAKS: twice 2^61 is not", y.order(0, 2), 0);
    }

    private static void likeFromNoneToAll() {
        due.by("LIKE of two REGISTERS: the greatest n (0 to 5) so that they have the same numbers for all TREES of 1 to n NODES.");
        for (int t = 0; t < 17; t++) {
            RootedCuts x = new RootedCuts();
            x.flows(0);
            x.flows(5);
            due.is("like(0, 5)", x.like(0, 5), 5);
            x.puts(5, t, -1);
            due.is("like(0, 5), TREE " + t + " unlike", x.like(0, 5), NODES[t] - 1);
            due.is("like(5, 0), TREE " + t + " unlike", x.like(5, 0), NODES[t] - 1);
            due.is("like(5, 5)", x.like(5, 5), 5);
            x.puts(0, t, -1);
            due.is("like(0, 5), both so", x.like(0, 5), 5);
        }
        due.by("LIKE. BAD.");
        RootedCuts x = new RootedCuts();
        for (int r : new int[] {-1, 6, MIN, MAX}) {
            due.is("like(" + r + ", 5)", x.like(r, 5), BAD);
            due.is("like(5, " + r + ")", x.like(5, r), BAD);
            due.is("like(" + r + ", " + r + ")", x.like(r, r), BAD);
        }
    }

    // ---- sees, forget, which

    private static void sixAreSeen() {
        due.by("SEEN, v for a TREE: how much there is. BAD; FULL: 6.");
        RootedCuts x = new RootedCuts();
        for (int n = 1; n <= 6; n++) {
            due.is("sees() number " + n, x.sees(n % 2 * 16, 0), n);
            due.is("count(1)", x.count(1), n);
        }
        due.is("sees() number 7", x.sees(0, 5), FULL);
        due.is("count(1)", x.count(1), 6);
        due.is("which(): the seventh is not SEEN", x.which(), 63);
        due.is("forget()", x.forget(), 6);
        due.is("sees() behind forget()", x.sees(0, 5), 1);
        due.is("which()", x.which(), 0);
    }

    private static void badAheadOfFull() {
        due.by("the first of these that is so: BAD (a number is not as told, or there is no such thing), STATE (as told), FULL.");
        RootedCuts x = new RootedCuts();
        for (int t : new int[] {-1, 17, MIN, MAX}) {
            due.is("sees(" + t + ", 0) of none", x.sees(t, 0), BAD);
        }
        due.is("count(1)", x.count(1), 0);
        for (int n = 1; n <= 6; n++) {
            x.sees(0, 0);
        }
        for (int t : new int[] {-1, 17, MIN, MAX}) {
            due.is("sees(" + t + ", 0) of six", x.sees(t, 0), BAD);
        }
        due.is("sees(16, 0) of six", x.sees(16, 0), FULL);
    }

    private static void anyNumberIsSeen() {
        due.by("an unknown REGISTER has a number for a TREE");
        for (long v : new long[] {Long.MIN_VALUE, Long.MAX_VALUE, RootedCuts.NEVER, 1L << 32, -1, 1}) {
            RootedCuts x = new RootedCuts();
            due.is("sees(16, " + v + ")", x.sees(16, v), 1);
            due.is("which()", x.which(), 0);
            x.forget();
            x.sees(16, 0);
            due.is("which() of 0", x.which(), 63);
        }
    }

    private static void whichFromNoneToAll() {
        due.by("WHICH: REGISTERS (bits) that have all that was SEEN");
        due.is("which(), nothing SEEN", new RootedCuts().which(), 63);
        for (int r = 0; r < 6; r++) {
            for (int t = 0; t < 17; t++) {
                RootedCuts x = new RootedCuts();
                x.puts(r, t, 9);
                x.sees(t, 9);
                due.is("which() has 9 for TREE " + t, x.which(), 1 << r);
                x.sees((t + 1) % 17, 0);
                due.is("which() has 0 for the next, too", x.which(), 1 << r);
                x.sees(t, 0);
                due.is("which() has 9 and 0 for TREE " + t, x.which(), 0);
                x.forget();
                x.sees(t, 0);
                due.is("which() has 0 for TREE " + t, x.which(), 63 - (1 << r));
            }
        }
        due.by("WHICH, as bits.");
        RootedCuts x = new RootedCuts();
        for (int n = 0; n < 5; n++) {
            x.sees(n, 0);
        }
        x.sees(5, 1);
        due.is("which(): the sixth counts, too", x.which(), 0);
        x.forget();
        x.sees(0, 1);
        for (int n = 1; n < 6; n++) {
            x.sees(n, 0);
        }
        due.is("which(): the first counts, too", x.which(), 0);
    }

    private static void whichAsTheyAre() {
        due.by("as they are when it is asked");
        RootedCuts x = new RootedCuts();
        x.sees(0, 60);
        due.is("which() at first", x.which(), 0);
        x.keep(0);
        x.flows(3);
        due.is("which() behind flows(3)", x.which(), 8);
        x.flows(5);
        due.is("which() behind flows(5)", x.which(), 40);
        x.undo();
        due.is("which() behind undo()", x.which(), 8);
        x.keep(1);
        x.back(0);
        due.is("which() behind back(0)", x.which(), 0);
        x.back(1);
        due.is("which() behind back(1)", x.which(), 8);
    }

    private static void forgetFromNoneToAll() {
        due.by("Nothing is SEEN: how much was.");
        for (int n = 0; n <= 6; n++) {
            RootedCuts x = new RootedCuts();
            for (int i = 0; i < n; i++) {
                x.sees(i, 1);
            }
            due.is("which()", x.which(), n == 0 ? 63 : 0);
            due.is("forget() of " + n, x.forget(), n);
            due.is("which() then", x.which(), 63);
            due.is("count(1) then", x.count(1), 0);
            due.is("forget() once more", x.forget(), 0);
        }
    }

    // ---- keep, back, count

    private static void imagesZeroAndOne() {
        due.by("An IMAGE is kept: STAGES. BAD.");
        RootedCuts x = new RootedCuts();
        Due.tell(x, "s 4;");
        for (int image : new int[] {-1, 2, -2, 3, MIN, MAX}) {
            due.is("keep(" + image + ")", x.keep(image), BAD);
            due.is("back(" + image + ")", x.back(image), BAD);
        }
        due.is("back(0): none of those was kept", x.back(0), STATE);
        due.is("back(1): none of those was kept", x.back(1), STATE);
        due.is("keep(0)", x.keep(0), 4);
        due.is("keep(1)", x.keep(1), 4);
        due.is("back(0)", x.back(0), 4);
        due.is("back(1)", x.back(1), 4);
        for (int n = 1; n <= 4; n++) {
            Due.tell(x, "s " + n + ";");
            due.is("keep(0) of " + n, x.keep(0), n);
            Due.tell(x, "s " + (5 - n) + ";");
            due.is("back(0) of " + n, x.back(0), n);
            due.is("count(0)", x.count(0), n);
        }
    }

    private static void noneWasKept() {
        due.by("All of that becomes as an IMAGE has it: STAGES. BAD; STATE: none was kept.");
        for (int image = 0; image < 2; image++) {
            RootedCuts x = new RootedCuts();
            due.is("back(" + image + ")", x.back(image), STATE);
            x.puts(0, 0, 1);
            x.keep(1 - image);
            due.is("back(" + image + "), the other kept", x.back(image), STATE);
            due.is("value(0, 0)", x.value(0, 0), 1);
            due.is("count(3)", x.count(3), 1);
            due.is("keep(" + image + ")", x.keep(image), 1);
            due.is("back(" + image + ")", x.back(image), 1);
            due.is("back(" + image + ") once more", x.back(image), 1);
        }
    }

    private static void imagesKeepNothingElse() {
        due.by("IMAGES 0, 1 keep METHOD and REGISTERS; nothing else");
        RootedCuts x = new RootedCuts();
        x.sees(0, 0);
        x.type('(');
        x.keep(0);
        x.sees(1, 0);
        x.type(')');
        x.keep(1);
        due.is("back(0)", x.back(0), 1);
        due.is("SEEN", x.count(1), 2);
        due.is("letters", x.count(2), 2);
        due.is("back(1): IMAGES do not keep IMAGES", x.back(1), 1);
        due.is("tree()", x.tree(), 0);
        x.forget();
        x.back(1);
        due.is("SEEN", x.count(1), 0);
        due.is("letters", x.count(2), 0);
    }

    private static void nothingIsUndoneBehindBack() {
        due.by("(nothing can be UNDONE behind back())");
        for (int done = 0; done <= 8; done++) {
            RootedCuts x = new RootedCuts();
            x.keep(0);
            for (int v = 1; v <= done; v++) {
                x.puts(0, 0, v);
            }
            due.is("keep(1) leaves what may be UNDONE", x.keep(1), 1);
            due.is("count(3)", x.count(3), Math.min(done, 6));
            due.is("back(0)", x.back(0), 1);
            due.is("count(3) behind back(0)", x.count(3), 0);
            due.is("undo() behind back(0)", x.undo(), STATE);
            due.is("value(0, 0)", x.value(0, 0), 0);
            due.is("puts(0, 0, 5)", x.puts(0, 0, 5), 1);
            due.is("undo() of what came behind", x.undo(), 0);
            due.is("value(0, 0)", x.value(0, 0), 0);
            due.is("undo() of no more", x.undo(), STATE);
        }
    }

    private static void imagesStandApart() {
        due.by("All of that becomes as an IMAGE has it");
        RootedCuts x = new RootedCuts();
        Due.tell(x, "s 2; a 1 1 3; b 1 4;");
        x.puts(5, 16, 6);
        x.keep(0);
        x.tells(1, 1, 30);
        x.puts(5, 16, 60);
        x.keep(1);
        x.tells(1, 1, 300);
        x.puts(5, 16, 600);
        for (int n = 0; n < 3; n++) {
            x.back(n % 2);
            due.is("a 1 1 of IMAGE " + n % 2, x.number(1, 1), n % 2 == 0 ? 3 : 30);
            due.is("value(5, 16) of IMAGE " + n % 2, x.value(5, 16), n % 2 == 0 ? 6 : 60);
            x.tells(1, 1, -7);
            x.puts(5, 16, -8);
            x.undo();
            x.undo();
        }
    }

    private static void keptAnew() {
        due.by("An IMAGE is kept: STAGES.");
        RootedCuts x = new RootedCuts();
        x.puts(0, 0, 1);
        x.keep(0);
        x.puts(0, 0, 2);
        x.keep(0);
        x.puts(0, 0, 3);
        x.back(0);
        due.is("value(0, 0): the latest that was kept", x.value(0, 0), 2);
        due.is("keep(2)", x.keep(2), BAD);
        x.puts(0, 0, 4);
        x.back(0);
        due.is("value(0, 0): keep(2) kept nothing", x.value(0, 0), 2);
    }

    private static void counts() {
        due.by("0 STAGES, 1 SEEN, 2 letters of THE TEXT, 3 how many may be UNDONE. BAD.");
        RootedCuts x = new RootedCuts();
        int[] atFirst = {1, 0, 0, 0};
        for (int what = 0; what < 4; what++) {
            due.is("count(" + what + ") at first", x.count(what), atFirst[what]);
        }
        Due.tell(x, "s 4;");
        for (int n = 0; n < 6; n++) {
            x.sees(0, 0);
            x.flows(n);
        }
        Due.say(x, " ".repeat(160));
        int[] atMost = {4, 6, 160, 6};
        for (int what = 0; what < 4; what++) {
            due.is("count(" + what + ") at most", x.count(what), atMost[what]);
        }
        for (int what : new int[] {-1, 4, -4, 5, MIN, MAX}) {
            due.is("count(" + what + ")", x.count(what), BAD);
        }
    }
}
