/** Promises 22 to 29: order, like, sees, forget, which, keep, back, count. */
public final class OrderPromises {
    private static final Due due = new Due();
    private static final int BAD = RootedCuts.BAD, STATE = RootedCuts.STATE, FULL = RootedCuts.FULL, NONE = RootedCuts.NONE;

    public static void main(String[] args) {
        orderAndFails();
        breaks();
        orderIsRefused();
        like();
        sees();
        which();
        keepAndBack();
        backForgetsWhatCouldBeUndone();
        count();
        due.end();
    }

    private static void orderAndFails() {
        int[] nodes = {1, 2, 3, 3, 4, 4, 4, 4, 5, 5, 5, 5, 5, 5, 5, 5, 5};
        for (int t = 0; t < 17; t++) {
            RootedCuts x = new RootedCuts();
            x.flows(2);
            x.puts(2, t, -1);
            x.puts(2, 16, -1);
            due.is("ORDER, TREE " + t + " wrong", x.order(2, 0), nodes[t] - 1);
            due.is("FAILS, TREE " + t + " wrong", x.order(2, 1), t);
        }
        RootedCuts x = new RootedCuts();
        x.flows(5);
        due.is("ORDER of the FLOW", x.order(5, 0), 5);
        due.is("FAILS of the FLOW", x.order(5, 1), NONE);
        due.is("BREAKS of the FLOW", x.order(5, 2), NONE);
        // Right for TREE 2 but not for TREE 0: that is no ORDER.
        x.puts(0, 2, 72000);
        due.is("ORDER, TREE 0 wrong", x.order(0, 0), 0);
    }

    private static void breaks() {
        RootedCuts x = new RootedCuts();
        due.is("BREAKS of 0", x.order(0, 2), NONE);
        // A number for one TREE alone: the first pair that has to do with it, as found by hand.
        int[] want = {
            0, 0, 1, 1, 2, 3, 2, 3, 4, 5, 17 + 3, 6, 7, 4, 5, 6, 7};
        for (int t = 0; t < 17; t++) {
            RootedCuts y = new RootedCuts();
            y.puts(1, t, 2);
            due.is("BREAKS with TREE " + t + " alone", y.order(1, 2), want[t]);
        }
        // 0 and 1 as due: 2 a(1) = a(0)^2; then a(2) + a(3) = a(0) a(1) is not so.
        x.puts(0, 0, 4);
        x.puts(0, 1, 8);
        due.is("BREAKS, 0 with 1", x.order(0, 2), 1);
        x.puts(0, 2, 30);
        x.puts(0, 3, 2);
        due.is("BREAKS, 0 with 2", x.order(0, 2), 2);
        x.puts(0, 4, 100);
        x.puts(0, 6, 20);
        due.is("BREAKS, 0 with 3", x.order(0, 2), 3);
        x.puts(0, 5, 10);
        x.puts(0, 7, -2);
        due.is("BREAKS, 0 with 4", x.order(0, 2), 4);
        x.puts(0, 8, 400);
        due.is("BREAKS, 0 with 5", x.order(0, 2), 5);
        x.puts(0, 9, 40);
        due.is("BREAKS, 0 with 6", x.order(0, 2), 6);
        x.puts(0, 11, 80);
        due.is("BREAKS, 0 with 7", x.order(0, 2), 7);
        x.puts(0, 12, -8);
        due.is("BREAKS, 1 with itself", x.order(0, 2), 17 + 1);
        x.puts(0, 5, 32);
        x.puts(0, 7, -24);
        x.puts(0, 9, 128);
        x.puts(0, 12, -96);
        due.is("BREAKS, 1 with 2", x.order(0, 2), 17 + 2);
        x.puts(0, 11, 112);
        x.puts(0, 15, -32);
        due.is("BREAKS, 1 with 3", x.order(0, 2), 17 + 3);
        x.puts(0, 10, 112);
        due.is("BREAKS no more", x.order(0, 2), NONE);
    }

    private static void orderIsRefused() {
        RootedCuts x = new RootedCuts();
        for (int what = 0; what < 3; what++) {
            due.is("order(-1, " + what + ")", x.order(-1, what), BAD);
            due.is("order(6, " + what + ")", x.order(6, what), BAD);
        }
        due.is("order(0, -1)", x.order(0, -1), BAD);
        due.is("order(0, 3)", x.order(0, 3), BAD);
        due.is("order(MAX, MIN)", x.order(Integer.MAX_VALUE, Integer.MIN_VALUE), BAD);
    }

    private static void like() {
        RootedCuts x = new RootedCuts();
        int[] trees = {16, 8, 7, 4, 3, 2, 1, 0};
        int[] want = {4, 4, 3, 3, 2, 2, 1, 0};
        due.is("like(1, 4) of 0", x.like(1, 4), 5);
        for (int i = 0; i < trees.length; i++) {
            x.puts(4, trees[i], 1);
            due.is("like(1, 4) with TREE " + trees[i] + " unlike", x.like(1, 4), want[i]);
            due.is("like(4, 1) with TREE " + trees[i] + " unlike", x.like(4, 1), want[i]);
        }
        due.is("like(4, 4)", x.like(4, 4), 5);
        due.is("like(-1, 0)", x.like(-1, 0), BAD);
        due.is("like(6, 0)", x.like(6, 0), BAD);
        due.is("like(0, -1)", x.like(0, -1), BAD);
        due.is("like(0, 6)", x.like(0, 6), BAD);
    }

    private static void sees() {
        RootedCuts x = new RootedCuts();
        due.is("sees(-1, 0)", x.sees(-1, 0), BAD);
        due.is("sees(17, 0)", x.sees(17, 0), BAD);
        due.is("forget() of nothing", x.forget(), 0);
        for (int n = 1; n <= 6; n++) {
            due.is("sees(16, 0) as number " + n, x.sees(16, 0), n);
        }
        due.is("sees(16, 0) of a seventh", x.sees(16, 0), FULL);
        due.is("sees(17, 0) of a seventh", x.sees(17, 0), BAD);
        due.is("count(1)", x.count(1), 6);
        due.is("forget()", x.forget(), 6);
        due.is("count(1) behind forget()", x.count(1), 0);
        due.is("sees(0, 0) behind forget()", x.sees(0, 0), 1);
        due.is("UNDONE by none of these", x.count(3), 0);
    }

    private static void which() {
        RootedCuts x = new RootedCuts();
        due.is("which() without anything SEEN", x.which(), 63);
        x.puts(0, 0, 5);
        x.puts(2, 0, 5);
        x.puts(2, 16, 6);
        x.puts(5, 16, 6);
        x.sees(0, 5);
        due.is("which() has 5 for TREE 0", x.which(), 1 + 4);
        x.sees(16, 6);
        due.is("which() has 6 for TREE 16, too", x.which(), 4);
        x.puts(5, 0, 5);
        due.is("which() as they are now", x.which(), 4 + 32);
        x.undo();
        due.is("which() as they are behind undo()", x.which(), 4);
        x.sees(16, 7);
        due.is("which() has two numbers for one TREE", x.which(), 0);
        x.forget();
        due.is("which() behind forget()", x.which(), 63);
        x.sees(0, 4294967301L);
        due.is("which() has 2^32 and 5", x.which(), 0);
        x.puts(3, 0, 65536);
        x.puts(3, 1, 3);
        x.composes(3, 3, 3);
        x.forget();
        x.sees(1, 4294967302L);
        due.is("which() has 2^32 and 6", x.which(), 8);
    }

    private static void keepAndBack() {
        RootedCuts x = new RootedCuts();
        for (int image : new int[] {-1, 2, Integer.MIN_VALUE, Integer.MAX_VALUE}) {
            due.is("keep(" + image + ")", x.keep(image), BAD);
            due.is("back(" + image + ")", x.back(image), BAD);
        }
        due.is("back(0), nothing kept", x.back(0), STATE);
        Due.tell(x, "s 3; a 2 1 5; b 2 6;");
        x.puts(4, 7, 8);
        due.is("keep(1)", x.keep(1), 3);
        due.is("back(0), 1 alone kept", x.back(0), STATE);
        Due.tell(x, "s 2; b 1 9;");
        x.puts(4, 7, 80);
        x.puts(0, 16, 81);
        due.is("keep(0)", x.keep(0), 2);
        x.sees(0, 0);
        x.type('x');
        due.is("back(1)", x.back(1), 3);
        due.is("a 2 1", x.number(2, 1), 5);
        due.is("b 2", x.number(2, -1), 6);
        due.is("value(4, 7)", x.value(4, 7), 8);
        due.is("value(0, 16)", x.value(0, 16), 0);
        due.is("SEEN stays", x.count(1), 1);
        due.is("THE TEXT stays", x.count(2), 1);
        x.puts(4, 7, 800);
        x.tells(2, 1, -1);
        due.is("back(1), still the same IMAGE", x.back(1), 3);
        due.is("a 2 1 again", x.number(2, 1), 5);
        due.is("value(4, 7) again", x.value(4, 7), 8);
        due.is("back(0)", x.back(0), 2);
        due.is("b 1", x.number(1, -1), 9);
        due.is("value(4, 7) of IMAGE 0", x.value(4, 7), 80);
        due.is("value(0, 16) of IMAGE 0", x.value(0, 16), 81);
        due.is("keep(1) anew", x.keep(1), 2);
        x.puts(0, 16, 0);
        due.is("back(1) anew", x.back(1), 2);
        due.is("value(0, 16) of IMAGE 1 anew", x.value(0, 16), 81);
    }

    private static void backForgetsWhatCouldBeUndone() {
        RootedCuts x = new RootedCuts();
        x.puts(0, 0, 1);
        x.puts(0, 0, 2);
        x.keep(0);
        due.is("UNDONE behind keep()", x.count(3), 2);
        due.is("back(1)", x.back(1), STATE);
        due.is("back(2)", x.back(2), BAD);
        due.is("UNDONE behind back() that was refused", x.count(3), 2);
        due.is("back(0)", x.back(0), 1);
        due.is("UNDONE behind back()", x.count(3), 0);
        due.is("undo() behind back()", x.undo(), STATE);
        due.is("value(0, 0)", x.value(0, 0), 2);
        x.puts(0, 0, 3);
        due.is("undo() of what came behind back()", x.undo(), 0);
        due.is("value(0, 0) then", x.value(0, 0), 2);
        x.keep(1);
        x.undo();
        due.is("undo() leaves IMAGES", x.back(1), 1);
    }

    private static void count() {
        RootedCuts x = new RootedCuts();
        Due.tell(x, "s 4;");
        x.sees(0, 0);
        x.sees(1, 0);
        Due.say(x, "abc");
        x.flows(0);
        due.is("count(0)", x.count(0), 4);
        due.is("count(1)", x.count(1), 2);
        due.is("count(2)", x.count(2), 3);
        due.is("count(3)", x.count(3), 2);
        due.is("count(-1)", x.count(-1), BAD);
        due.is("count(4)", x.count(4), BAD);
        due.is("count(MIN)", x.count(Integer.MIN_VALUE), BAD);
        due.is("count(MAX)", x.count(Integer.MAX_VALUE), BAD);
    }
}
