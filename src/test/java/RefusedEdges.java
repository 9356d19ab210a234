import java.util.function.Consumer;

/**
 * "Refused, and nothing changes": every way in which a call may be refused, and every question, in
 * objects that are new, used, and full, with all that later calls can show.
 */
public final class RefusedEdges {
    private static final int BAD = RootedCuts.BAD, STATE = RootedCuts.STATE, FULL = RootedCuts.FULL, NONE = RootedCuts.NONE;
    private static final long NEVER = RootedCuts.NEVER;
    private static final int SAME = -1002, NO_NUMBER = -1001;
    private static final int[] OUTSIDE = {-1, 6, Integer.MIN_VALUE, Integer.MAX_VALUE};
    private static final Due due = new Due();

    public static void main(String[] args) {
        due.by("Refused, and nothing changes");
        newObjects();
        lettersAndTexts();
        numbersOfTheMethod();
        registers();
        numbersOfRegisters();
        imagesAndWhatWasSeen();
        fullObjects();
        due.by("(Nothing is changed.)");
        questionsThatAreBad();
        questions();
        whatIsLeftAlone();
        undoneIsAsAhead();
        due.end();
    }

    /** Three STAGES, all REGISTERS other than 0, eight done (so six known), both IMAGES, two SEEN, half a TREE told. */
    private static void use(RootedCuts x) {
        Due.tell(x, "s 3; a 1 0 30; a 2 2 -7; b 0 10; b 2 50;");
        x.flows(1);
        x.puts(1, 16, 5);
        x.keep(0);
        x.loads(0);
        x.flows(2);
        x.composes(3, 0, 2);
        x.tells(0, 2, 600);
        x.keep(1);
        x.inverts(4, 3);
        x.stretches(5, 1, -3);
        x.sees(0, 60);
        x.sees(1, 1800);
        Due.say(x, "(()");
    }

    /** No room for a letter, nor for anything more to be SEEN. */
    private static void fill(RootedCuts x) {
        x.flows(3);
        for (int t = 0; t < 6; t++) {
            x.sees(t, x.value(3, t));
        }
        Due.say(x, " ".repeat(150) + "b 0 -600; ");
    }

    private static void newObjects() {
        Twins twins = new Twins(due, x -> { });
        twins.unchanged("undo() of a new object", x -> x.undo(), STATE);
        twins.unchanged("back(0) of a new object", x -> x.back(0), STATE);
        twins.unchanged("back(1) of a new object", x -> x.back(1), STATE);
        twins.unchanged("tree() of a new object", x -> x.tree(), -10);
        twins.unchanged("clear() of a new object", x -> x.clear(), 0);
        twins.unchanged("forget() of a new object", x -> x.forget(), 0);
        twins.unchanged("tells(0, 0, 0) of a new object", x -> x.tells(0, 0, 0), SAME);
        twins.unchanged("tells(1, 0, 1) of a new object", x -> x.tells(1, 0, 1), NO_NUMBER);
        twins.unchanged("puts(0, 0, 0) of a new object", x -> x.puts(0, 0, 0), STATE);
    }

    private static void lettersAndTexts() {
        Twins used = new Twins(due, RefusedEdges::use);
        used.unchanged("type(-1)", x -> x.type(-1), BAD);
        used.unchanged("type(256)", x -> x.type(256), BAD);
        used.unchanged("tree() that ends too early", x -> x.tree(), -13);
        used.unchanged("method() of a TREE", x -> x.method(), -10);
        String[] faults = {"s 4; b 3 600; b 3 601;", "s 1; a 0 0 5; s 1;", "b 0 1; b 0", "x", "s 2; a 1 1 7; b 0 01;"};
        int[] places = {18, 14, 10, 0, 18};
        for (int i = 0; i < faults.length; i++) {
            String text = faults[i];
            Twins telling = new Twins(due, x -> {
                use(x);
                x.clear();
                Due.say(x, text);
            });
            telling.unchanged("method() of " + text, x -> x.method(), -10 - places[i]);
            telling.unchanged("tree() of " + text, x -> x.tree(), -10);
        }
    }

    private static void numbersOfTheMethod() {
        Twins used = new Twins(due, RefusedEdges::use);
        int[][] refused = {{-1, 0, 1}, {3, 0, 1}, {0, -2, 1}, {0, 3, 1}, {3, -1, 1}, {0, 0, 601}, {0, -1, -601}, {4, 4, 0},
            {Integer.MAX_VALUE, Integer.MIN_VALUE, 0}};
        for (int[] c : refused) {
            used.unchanged("tells(" + c[0] + ", " + c[1] + ", " + c[2] + ")", x -> x.tells(c[0], c[1], c[2]), NO_NUMBER);
        }
        used.unchanged("tells(1, 0, 30)", x -> x.tells(1, 0, 30), SAME);
        used.unchanged("tells(0, 2, 600)", x -> x.tells(0, 2, 600), SAME);
        used.unchanged("tells(2, -1, 50)", x -> x.tells(2, -1, 50), SAME);
        used.unchanged("tells(1, 1, 0)", x -> x.tells(1, 1, 0), SAME);
    }

    private static void registers() {
        Twins used = new Twins(due, RefusedEdges::use);
        for (int r : OUTSIDE) {
            used.unchanged("loads(" + r + ")", x -> x.loads(r), BAD);
            used.unchanged("flows(" + r + ")", x -> x.flows(r), BAD);
            used.unchanged("composes(" + r + ", 0, 1)", x -> x.composes(r, 0, 1), BAD);
            used.unchanged("composes(0, " + r + ", 1)", x -> x.composes(0, r, 1), BAD);
            used.unchanged("composes(0, 1, " + r + ")", x -> x.composes(0, 1, r), BAD);
            used.unchanged("inverts(" + r + ", 1)", x -> x.inverts(r, 1), BAD);
            used.unchanged("inverts(0, " + r + ")", x -> x.inverts(0, r), BAD);
            used.unchanged("stretches(" + r + ", 0, 2)", x -> x.stretches(r, 0, 2), BAD);
            used.unchanged("stretches(0, " + r + ", 2)", x -> x.stretches(0, r, 2), BAD);
            used.unchanged("reverses(" + r + ", 1)", x -> x.reverses(r, 1), BAD);
            used.unchanged("reverses(0, " + r + ")", x -> x.reverses(0, r), BAD);
        }
        used.unchanged("flows(2) of the FLOW", x -> x.flows(2), STATE);
        used.unchanged("stretches(0, 1, 4)", x -> x.stretches(0, 1, 4), BAD);
        used.unchanged("stretches(0, 1, -4)", x -> x.stretches(0, 1, -4), BAD);
    }

    private static void numbersOfRegisters() {
        Twins used = new Twins(due, RefusedEdges::use);
        for (int r : OUTSIDE) {
            used.unchanged("puts(" + r + ", 0, 1)", x -> x.puts(r, 0, 1), BAD);
        }
        for (int t : new int[] {-1, 17, Integer.MIN_VALUE, Integer.MAX_VALUE}) {
            used.unchanged("puts(0, " + t + ", 1)", x -> x.puts(0, t, 1), BAD);
        }
        used.unchanged("puts(1, 16, 5)", x -> x.puts(1, 16, 5), STATE);
        used.unchanged("puts(2, 0, 60)", x -> x.puts(2, 0, 60), STATE);
    }

    private static void imagesAndWhatWasSeen() {
        Twins used = new Twins(due, RefusedEdges::use);
        for (int image : new int[] {-1, 2, Integer.MIN_VALUE, Integer.MAX_VALUE}) {
            used.unchanged("keep(" + image + ")", x -> x.keep(image), BAD);
            used.unchanged("back(" + image + ")", x -> x.back(image), BAD);
        }
        for (int t : new int[] {-1, 17, Integer.MIN_VALUE, Integer.MAX_VALUE}) {
            used.unchanged("sees(" + t + ", 60)", x -> x.sees(t, 60), BAD);
        }
        Twins oneKept = new Twins(due, x -> {
            x.puts(0, 0, 7);
            x.keep(0);
            x.puts(0, 0, 8);
        });
        oneKept.unchanged("back(1), 0 kept", x -> x.back(1), STATE);
        Twins allUndone = new Twins(due, x -> {
            use(x);
            for (int n = 0; n < 6; n++) {
                x.undo();
            }
        });
        allUndone.unchanged("undo() of what is lost", x -> x.undo(), STATE);
        Twins gotBack = new Twins(due, x -> {
            use(x);
            x.back(0);
        });
        gotBack.unchanged("undo() behind back()", x -> x.undo(), STATE);
    }

    private static void fullObjects() {
        Twins full = new Twins(due, RefusedEdges::fill);
        full.unchanged("type(59) of 160 letters", x -> x.type(';'), FULL);
        full.unchanged("type(0) of 160 letters", x -> x.type(0), FULL);
        full.unchanged("type(-1) of 160 letters", x -> x.type(-1), BAD);
        full.unchanged("type(256) of 160 letters", x -> x.type(256), BAD);
        full.unchanged("sees(6, 0) of six SEEN", x -> x.sees(6, 0), FULL);
        full.unchanged("sees(0, 60) of six SEEN", x -> x.sees(0, 60), FULL);
        full.unchanged("sees(-1, 60) of six SEEN", x -> x.sees(-1, 60), BAD);
        full.unchanged("sees(17, 60) of six SEEN", x -> x.sees(17, 60), BAD);
        full.unchanged("tree() of a METHOD", x -> x.tree(), -160);
    }

    private static void questionsThatAreBad() {
        Twins used = new Twins(due, RefusedEdges::use);
        used.unchanged("value(6, 0)", x -> x.value(6, 0), NEVER);
        used.unchanged("value(0, 17)", x -> x.value(0, 17), NEVER);
        used.unchanged("number(3, 0)", x -> x.number(3, 0), NO_NUMBER);
        used.unchanged("about(17, 0)", x -> x.about(17, 0), BAD);
        used.unchanged("about(0, 7)", x -> x.about(0, 7), BAD);
        used.unchanged("child(17, 0)", x -> x.child(17, 0), BAD);
        used.unchanged("child(0, -1)", x -> x.child(0, -1), BAD);
        used.unchanged("cut(17, 0, 0)", x -> x.cut(17, 0, 0), BAD);
        used.unchanged("cut(8, 0, -2)", x -> x.cut(8, 0, -2), BAD);
        used.unchanged("grafted(0, 17)", x -> x.grafted(0, 17), BAD);
        used.unchanged("leaves(0, 17)", x -> x.leaves(0, 17), BAD);
        used.unchanged("order(6, 0)", x -> x.order(6, 0), BAD);
        used.unchanged("order(0, 3)", x -> x.order(0, 3), BAD);
        used.unchanged("like(0, 6)", x -> x.like(0, 6), BAD);
        used.unchanged("count(4)", x -> x.count(4), BAD);
    }

    private static void questions() {
        Twins used = new Twins(due, RefusedEdges::use);
        used.unchanged("value(1, 16)", x -> x.value(1, 16), 5);
        used.unchanged("number(2, 2)", x -> x.number(2, 2), -7);
        for (int what = 0; what < 7; what++) {
            int w = what;
            int[] of11 = {5, 2, 15, 2, 2, 10, 8};
            used.unchanged("about(11, " + w + ")", x -> x.about(11, w), of11[w]);
        }
        used.unchanged("child(11, 0)", x -> x.child(11, 0), 2);
        used.unchanged("child(11, 2)", x -> x.child(11, 2), NONE);
        used.unchanged("cut(11, 0, -1)", x -> x.cut(11, 0, -1), 0);
        used.unchanged("cut(11, 0, 1)", x -> x.cut(11, 0, 1), 0);
        used.unchanged("cut(11, 10, 0)", x -> x.cut(11, 10, 0), NONE);
        used.unchanged("grafted(1, 2)", x -> x.grafted(1, 2), 11);
        used.unchanged("grafted(3, 3)", x -> x.grafted(3, 3), NONE);
        used.unchanged("leaves(11, 5)", x -> x.leaves(11, 5), 2);
        used.unchanged("order(1, 0)", x -> x.order(1, 0), 4);
        used.unchanged("order(1, 1)", x -> x.order(1, 1), 16);
        used.unchanged("order(1, 2)", x -> x.order(1, 2), 7);
        used.unchanged("like(1, 2)", x -> x.like(1, 2), 4);
        used.unchanged("which()", x -> x.which(), 6);
        used.unchanged("count(0)", x -> x.count(0), 3);
        used.unchanged("count(1)", x -> x.count(1), 2);
        used.unchanged("count(2)", x -> x.count(2), 3);
        used.unchanged("count(3)", x -> x.count(3), 6);
    }

    /** What a call that is not refused has to do with, and what it has not. */
    private static void whatIsLeftAlone() {
        due.by("THE TEXT tells a TREE, and is empty then");
        Twins telling = new Twins(due, x -> {
            use(x);
            x.type(')');
        });
        telling.alike("tree() and clear()", x -> x.tree(), x -> x.clear());
        due.by("An IMAGE is kept");
        Twins kept = new Twins(due, x -> {
            use(x);
            x.keep(1);
        });
        kept.unchanged("keep(1) once more", x -> x.keep(1), 3);
        due.by("All of that becomes as an IMAGE has it");
        Twins gotBack = new Twins(due, x -> {
            use(x);
            x.keep(0);
            x.back(0);
        });
        gotBack.unchanged("back(0) once more", x -> x.back(0), 3);
        due.by("Nothing is SEEN");
        Twins used = new Twins(due, RefusedEdges::use);
        used.alike("forget() and the same SEEN again", x -> {
            x.forget();
            x.sees(1, 1800);
            x.sees(0, 60);
        }, x -> { });
        due.by("THE TEXT is empty");
        used.alike("clear() and the same told again", x -> {
            x.clear();
            Due.say(x, "(()");
        }, x -> { });
    }

    private static void undoneIsAsAhead() {
        due.by("METHOD and REGISTERS are as ahead of it");
        // Fewer than six done, as the sixth and one more would lose the oldest.
        Twins twins = new Twins(due, x -> {
            Due.tell(x, "s 3; a 1 0 30; a 2 2 -7; b 0 10; b 2 50;");
            x.keep(1);
            x.loads(0);
            x.flows(2);
            x.composes(3, 0, 2);
            x.puts(3, 9, -5);
            x.sees(0, 60);
        });
        undone(twins, "tells(2, 2, 7)", x -> x.tells(2, 2, 7));
        undone(twins, "tells(0, -1, 7)", x -> x.tells(0, -1, 7));
        undone(twins, "loads(3)", x -> x.loads(3));
        undone(twins, "loads(0), as it was", x -> x.loads(0));
        undone(twins, "flows(3)", x -> x.flows(3));
        undone(twins, "composes(3, 3, 0)", x -> x.composes(3, 3, 0));
        undone(twins, "inverts(3, 3)", x -> x.inverts(3, 3));
        undone(twins, "stretches(3, 3, 0)", x -> x.stretches(3, 3, 0));
        undone(twins, "reverses(0, 3)", x -> x.reverses(0, 3));
        undone(twins, "puts(3, 9, 5)", x -> x.puts(3, 9, 5));
        undone(twins, "method() of four STAGES", x -> Due.tell(x, "s 4; a 2 2 1; b 3 2;"));
        undone(twins, "method() of nothing", x -> Due.tell(x, ""));
    }

    private static void undone(Twins twins, String name, Consumer<RootedCuts> call) {
        twins.alike(name + " UNDONE, and nothing", x -> {
            call.accept(x);
            due.is("undo() of " + name, x.undo(), 5);
        }, x -> { });
    }
}
