/** Objects for questions that are the same of any: nothing is promised of one behind its 512th call. */
final class Fresh {
    private static final int CALLS = 512;

    private RootedCuts object = new RootedCuts();
    private int calls = 0;

    RootedCuts x() {
        if (calls == CALLS) {
            object = new RootedCuts();
            calls = 0;
        }
        calls++;
        return object;
    }
}
