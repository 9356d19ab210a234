/** Counts the calls whose answer is not the one that is due, and prints them. */
final class Due {
    private int asked = 0;
    private int wrong = 0;
    private String sentence = "";

    /** The document's words by which the answers from here on are due: printed with those that are not. */
    void by(String words) {
        sentence = "\"" + words + "\": ";
    }

    void is(String call, long got, long want) {
        asked++;
        if (got != want) {
            wrong++;
            System.out.println(sentence + call + " answered " + got + ", due is " + want);
        }
    }

    /** Types a text, which must find room in THE TEXT. */
    static void say(RootedCuts x, String letters) {
        for (int i = 0; i < letters.length(); i++) {
            if (x.type(letters.charAt(i)) < 0) {
                throw new IllegalStateException("THE TEXT has no room for: " + letters);
            }
        }
    }

    /** Says a METHOD that has no FAULT. */
    static void tell(RootedCuts x, String letters) {
        x.clear();
        say(x, letters);
        if (x.method() < 0) {
            throw new IllegalStateException("not a METHOD: " + letters);
        }
    }

    void end() {
        System.out.println(asked - wrong + " of " + asked + " answers are as due");
        if (wrong != 0 || asked == 0) {
            System.exit(1);
        }
    }
}
