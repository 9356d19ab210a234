import java.lang.management.ManagementFactory;

/** All calls of one run live in one room: what an object is made of is small, and no call takes more. */
public final class Room {
    private static final Due due = new Due();
    private static final com.sun.management.ThreadMXBean threads =
            (com.sun.management.ThreadMXBean) ManagementFactory.getThreadMXBean();
    private static final String METHOD =
            "s4;a1 0 30;a2 1 30;a3 2 60;b0 10;b1 20;b2 20;b3 10;a0 0-600;a0 1 1;a0 2 1;a0 3 1;a1 1 1;a1 2 1;a1 3 1;";

    public static void main(String[] args) {
        // Twice: what the machine loads at the first time is not the class's.
        useAll(new RootedCuts());
        makes();
        long before = taken();
        RootedCuts x = makes();
        due.is("a new object takes 40,000 bytes or less, not", (taken() - before) / 40001, 0);
        before = taken();
        useAll(x);
        due.is("512 calls take 2,000 bytes or less, not", (taken() - before) / 2001, 0);
        due.end();
    }

    private static RootedCuts makes() {
        return new RootedCuts();
    }

    private static long taken() {
        return threads.getThreadAllocatedBytes(Thread.currentThread().getId());
    }

    /** 512 calls, the dearest among them often. */
    private static void useAll(RootedCuts x) {
        for (int i = 0; i < METHOD.length(); i++) {
            x.type(METHOD.charAt(i));
        }
        x.method();
        x.type('(');
        x.tree();
        x.method();
        x.clear();
        for (int n = 0; n < 13; n++) {
            int r = n % 6;
            x.tells(0, 0, n);
            x.loads(r);
            x.flows(r);
            x.composes(r, 5 - r, n % 5);
            x.inverts(5 - r, r);
            x.stretches(r, r, 3);
            x.reverses(r, n % 3);
            x.puts(r, n, n);
            x.undo();
            x.value(r, n);
            x.number(0, 0);
            for (int what = 0; what < 7; what++) {
                x.about(n, what);
            }
            x.child(n, 2);
            x.cut(n, 3, 0);
            x.grafted(n, 1);
            x.leaves(n, 1);
            x.order(r, n % 3);
            x.like(r, 1);
            x.sees(n, n);
            x.which();
            x.forget();
            x.keep(n % 2);
            x.back(n % 2);
            x.count(n % 4);
        }
    }
}
