import java.util.ArrayList;
import java.util.List;
import java.util.function.Consumer;
import java.util.function.ToLongFunction;

/**
 * Two objects with the same calls behind them, then one call on the one and another (or none) on the
 * other: whatever is asked of them later must be answered alike. Each way of asking gets a new pair,
 * as an object has 512 calls.
 */
final class Twins {
    private static final int UNDONE_AT_MOST = 6;

    private final Due due;
    private final Consumer<RootedCuts> ahead;

    Twins(Due due, Consumer<RootedCuts> ahead) {
        this.due = due;
        this.ahead = ahead;
    }

    /** The call answers what is due, and nothing that can be asked is another than without it. */
    void unchanged(String name, ToLongFunction<RootedCuts> call, long want) {
        RootedCuts x = made();
        due.is(name, call.applyAsLong(x), want);
        due.is(name + " once more", call.applyAsLong(x), want);
        alike(name + " and nothing", y -> call.applyAsLong(y), y -> { });
    }

    void alike(String name, Consumer<RootedCuts> one, Consumer<RootedCuts> other) {
        List<Consumer<Asked>> ways = ways();
        for (int i = 0; i < ways.size(); i++) {
            String got = answers(one, ways.get(i));
            String want = answers(other, ways.get(i));
            due.is(name + ", asked in way " + i + ": the first answer that differs", differ(got, want), -1);
        }
    }

    private RootedCuts made() {
        RootedCuts x = new RootedCuts();
        ahead.accept(x);
        return x;
    }

    private String answers(Consumer<RootedCuts> call, Consumer<Asked> way) {
        RootedCuts x = made();
        call.accept(x);
        Asked asked = new Asked(x);
        way.accept(asked);
        return asked.answers.toString();
    }

    private static int differ(String got, String want) {
        String[] g = got.split(" ");
        String[] w = want.split(" ");
        for (int i = 0; i < g.length && i < w.length; i++) {
            if (!g[i].equals(w[i])) {
                return i;
            }
        }
        return g.length == w.length ? -1 : Math.min(g.length, w.length);
    }

    private static final class Asked {
        final RootedCuts x;
        final StringBuilder answers = new StringBuilder();

        Asked(RootedCuts x) {
            this.x = x;
        }

        Asked add(long answer) {
            answers.append(answer).append(' ');
            return this;
        }

        /** METHOD, REGISTERS, all counts and WHICH. */
        void all() {
            for (int what = 0; what < 4; what++) {
                add(x.count(what));
            }
            for (int i = 0; i < 4; i++) {
                for (int j = -1; j < 4; j++) {
                    add(x.number(i, j));
                }
            }
            for (int r = 0; r < 6; r++) {
                for (int t = 0; t < 17; t++) {
                    add(x.value(r, t));
                }
            }
            add(x.which());
        }
    }

    private static List<Consumer<Asked>> ways() {
        List<Consumer<Asked>> ways = new ArrayList<>();
        for (int n = 0; n <= UNDONE_AT_MOST + 1; n++) {
            int times = n;
            ways.add(a -> {
                for (int i = 0; i < times; i++) {
                    a.add(a.x.undo());
                }
                a.all();
            });
        }
        ways.add(a -> a.add(a.x.back(0)).all());
        ways.add(a -> a.add(a.x.back(1)).all());
        ways.add(a -> a.add(a.x.method()).add(a.x.clear()).all());
        ways.add(a -> a.add(a.x.tree()).add(a.x.clear()).all());
        ways.add(a -> a.add(a.x.type(')')).add(a.x.tree()).add(a.x.clear()).add(a.x.clear()));
        ways.add(Twins::askWhatWasSeen);
        return ways;
    }

    /** The FLOW has been SEEN, if anything was: a REGISTER that is it shows whether all of that fits. */
    private static void askWhatWasSeen(Asked a) {
        a.add(a.x.flows(0)).add(a.x.which());
        for (int n = 0; n < 7; n++) {
            a.add(a.x.sees(0, 60));
        }
        a.add(a.x.which()).add(a.x.forget()).add(a.x.which()).add(a.x.count(1));
    }
}
