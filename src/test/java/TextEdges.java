/** The document's sentences about THE TEXT and the TREES that it tells, at their edges. */
public final class TextEdges {
    private static final int BAD = RootedCuts.BAD, FULL = RootedCuts.FULL;
    private static final Due due = new Due();

    /** All ways to tell a TREE without blanks, and its number. */
    private static final String[] TOLD = {
        "()", "(())", "(()())", "((()))",
        "(()()())", "((())())", "(()(()))", "((()()))", "(((())))",
        "(()()()())", "((())()())", "(()(())())", "(()()(()))", "((())(()))", "((()())())", "(()(()()))",
        "(((()))())", "(()((())))", "((()()()))", "(((())()))", "((()(())))", "(((()())))", "((((()))))"};
    private static final int[] NUMBER = {
        0, 1, 2, 3, 4, 5, 5, 6, 7, 8, 9, 9, 9, 10, 11, 11, 12, 12, 13, 14, 14, 15, 16};

    public static void main(String[] args) {
        lettersThatAreTaken();
        lettersThatAreRefused();
        theLastLetterThatHasRoom();
        whatIsRefusedForRoomStaysOut();
        badAheadOfFull();
        clearFromNoneToAll();
        treesInAnyOrder();
        anyLetterWhereNothingIsTold();
        anyLetterInside();
        anyLetterBehind();
        anyLetterAsTheSixthNode();
        theSixthNodeAnywhere();
        oneCloseTooMany();
        treesThatEndTooEarly();
        blanksAnywhere();
        faultsInTheLastPlaces();
        theFirstOfTwoFaults();
        theTextStaysOrIsEmpty();
        due.end();
    }

    private static RootedCuts saying(String text) {
        RootedCuts x = new RootedCuts();
        Due.say(x, text);
        return x;
    }

    private static void tree(String text, int want) {
        RootedCuts x = saying(text);
        due.is("tree() of '" + text + "'", x.tree(), want);
        due.is("letters behind tree() of '" + text + "'", x.count(2), want < 0 ? text.length() : 0);
    }

    private static void fault(String text, int place) {
        tree(text, -10 - place);
    }

    // ---- type, clear

    private static void lettersThatAreTaken() {
        due.by("A letter (0 .. 255) comes to THE TEXT: how many it has.");
        RootedCuts low = new RootedCuts();
        RootedCuts high = new RootedCuts();
        for (int n = 0; n < 128; n++) {
            due.is("type(" + n + ")", low.type(n), n + 1);
            due.is("type(" + (n + 128) + ")", high.type(n + 128), n + 1);
        }
    }

    private static void lettersThatAreRefused() {
        due.by("A letter (0 .. 255) comes to THE TEXT: how many it has. BAD");
        RootedCuts x = saying("(");
        // The last three would be ) if their higher bits were lost.
        for (int letter : new int[] {-1, 256, Integer.MIN_VALUE, Integer.MAX_VALUE, 256 + ')', 65536 + ')', ')' - 256}) {
            due.is("type(" + letter + ")", x.type(letter), BAD);
            due.is("letters behind type(" + letter + ")", x.count(2), 1);
        }
        due.is("type(41) behind them", x.type(')'), 2);
        due.is("tree() behind them", x.tree(), 0);
    }

    private static void theLastLetterThatHasRoom() {
        due.by("THE TEXT is told letter by letter (160 letters at most)");
        RootedCuts x = new RootedCuts();
        for (int n = 1; n <= 160; n++) {
            due.is("letter number " + n, x.type(32), n);
        }
        due.is("letter number 161", x.type(32), FULL);
        due.is("letters then", x.count(2), 160);
    }

    private static void whatIsRefusedForRoomStaysOut() {
        due.by("FULL: 160.");
        RootedCuts x = saying(" ".repeat(158) + "()");
        due.is("type(41)", x.type(')'), FULL);
        due.is("type(41) once more", x.type(')'), FULL);
        due.is("tree() does not see them", x.tree(), 0);
        due.is("type(41) has room then", x.type(')'), 1);
        RootedCuts y = saying(" ".repeat(152) + "b 0 600;");
        due.is("type(120)", y.type('x'), FULL);
        due.is("method() does not see it", y.method(), 1);
        due.is("b 0", y.number(0, -1), 600);
        RootedCuts z = saying("(".repeat(160));
        due.is("type(41)", z.type(')'), FULL);
        due.is("clear()", z.clear(), 160);
        due.is("type(41) behind clear()", z.type(')'), 1);
    }

    private static void badAheadOfFull() {
        due.by("the first of these that is so: BAD (a number is not as told, or there is no such thing), STATE (as told), FULL.");
        RootedCuts x = saying(" ".repeat(160));
        due.is("type(-1)", x.type(-1), BAD);
        due.is("type(256)", x.type(256), BAD);
        due.is("type(255)", x.type(255), FULL);
        due.is("type(0)", x.type(0), FULL);
    }

    private static void clearFromNoneToAll() {
        due.by("THE TEXT is empty: how many letters it had.");
        for (int n = 0; n <= 160; n++) {
            RootedCuts x = saying("(".repeat(n));
            due.is("clear() of " + n, x.clear(), n);
            due.is("letters behind it", x.count(2), 0);
            due.is("clear() once more", x.clear(), 0);
            Due.say(x, "()");
            due.is("tree() of what is told then", x.tree(), 0);
        }
    }

    // ---- tree

    private static void treesInAnyOrder() {
        due.by("A TREE is told as ( then its CHILDREN, told likewise, in any order, then )");
        for (int i = 0; i < TOLD.length; i++) {
            tree(TOLD[i], NUMBER[i]);
        }
    }

    private static void anyLetterWhereNothingIsTold() {
        due.by("any but ( where nothing is told yet");
        for (int letter = 0; letter < 256; letter++) {
            String text = (char) letter + "()";
            if (letter == ' ') {
                tree(text, 0);
                tree(" " + text, 0);
            } else if (letter == '(') {
                fault(text, 3);
                fault(" " + text, 4);
            } else {
                fault(text, 0);
                fault(" " + text, 1);
            }
        }
    }

    private static void anyLetterInside() {
        due.by("any but ( ) else");
        for (int letter = 0; letter < 256; letter++) {
            char c = (char) letter;
            if (c == ' ') {
                tree("(" + c + ")", 0);
                tree("(()" + c + ")", 1);
            } else if (c == '(') {
                fault("(" + c + ")", 3);
                fault("(()" + c + ")", 5);
            } else if (c == ')') {
                fault("(" + c + ")", 2);
                fault("(()" + c + ")", 4);
            } else {
                fault("(" + c + ")", 1);
                fault("(()" + c + ")", 3);
            }
        }
    }

    private static void anyLetterBehind() {
        due.by("anything behind the last )");
        for (int letter = 0; letter < 256; letter++) {
            char c = (char) letter;
            if (c == ' ') {
                tree("()" + c, 0);
                tree("() " + c, 0);
                tree("((((()))))" + c, 16);
            } else {
                fault("()" + c, 2);
                fault("() " + c, 3);
                fault("((((()))))" + c, 10);
            }
        }
        fault("()()", 2);
        fault("() ()", 3);
    }

    private static void anyLetterAsTheSixthNode() {
        due.by("the ( of a sixth NODE");
        for (int letter = 0; letter < 256; letter++) {
            char c = (char) letter;
            String chain = "(((((" + c + ")))))";
            String row = "(()()()()" + c + ")";
            if (c == ' ') {
                tree(chain, 16);
                tree(row, 8);
            } else if (c == ')') {
                fault(chain, 10);
                fault(row, 10);
            } else {
                fault(chain, 5);
                fault(row, 9);
            }
        }
    }

    private static int placeOf(int which, String text) {
        int seen = 0;
        for (int i = 0; i < text.length(); i++) {
            seen += text.charAt(i) == '(' ? 1 : 0;
            if (seen == which) {
                return i;
            }
        }
        return -1;
    }

    private static void theSixthNodeAnywhere() {
        due.by("the ( of a sixth NODE");
        for (int i = 0; i < TOLD.length; i++) {
            for (int at = 0; at <= TOLD[i].length(); at++) {
                String text = TOLD[i].substring(0, at) + "(" + TOLD[i].substring(at);
                if (NUMBER[i] >= 8) {
                    fault(text, placeOf(6, text));
                } else {
                    // Below five NODES one more ( has room; it is not closed, or stands behind the last ).
                    fault(text, at < TOLD[i].length() ? text.length() : at);
                }
            }
        }
    }

    private static void oneCloseTooMany() {
        due.by("anything behind the last )");
        for (String told : TOLD) {
            for (int at = 0; at <= told.length(); at++) {
                String text = told.substring(0, at) + ")" + told.substring(at);
                fault(text, firstPlaceBehindAll(text));
            }
        }
    }

    /** The first place ahead of which as many are closed as opened; the ) at place 0 is such a one, too. */
    private static int firstPlaceBehindAll(String text) {
        int open = 0;
        for (int i = 0; i < text.length(); i++) {
            if (open == 0 && (i > 0 || text.charAt(i) == ')')) {
                return i;
            }
            open += text.charAt(i) == '(' ? 1 : -1;
        }
        return text.length();
    }

    private static void treesThatEndTooEarly() {
        due.by("THE TEXT's length, if it ends too early.");
        for (String told : TOLD) {
            for (int n = 0; n < told.length(); n++) {
                fault(told.substring(0, n), n);
                fault(told.substring(0, n) + " ", n + 1);
            }
        }
        fault(" ".repeat(160), 160);
        fault(" ".repeat(159), 159);
        fault(" ".repeat(159) + "(", 160);
    }

    private static void blanksAnywhere() {
        due.by("blanks (32) are passed over where a TREE is told");
        for (int i = 0; i < TOLD.length; i++) {
            tree(TOLD[i].replace("", " "), NUMBER[i]);
            tree(TOLD[i].replace("", "   "), NUMBER[i]);
            for (int at = 0; at <= TOLD[i].length(); at++) {
                tree(TOLD[i].substring(0, at) + " ".repeat(150) + TOLD[i].substring(at), NUMBER[i]);
                fault(TOLD[i].substring(0, at) + "\t" + TOLD[i].substring(at), at);
            }
        }
    }

    private static void faultsInTheLastPlaces() {
        due.by("-10 less FAULT of a TREE: THE TEXT stays.");
        fault(" ".repeat(159) + ")", 159);
        fault(" ".repeat(157) + "()x", 159);
        fault(" ".repeat(156) + "()x ", 158);
        tree(" ".repeat(158) + "()", 0);
        tree("()" + " ".repeat(158), 0);
        tree("(" + " ".repeat(158) + ")", 0);
    }

    private static void theFirstOfTwoFaults() {
        due.by("the place of the first letter that can't stand there");
        fault("x)", 0);
        fault("(x(((((", 1);
        fault("((((((x", 5);
        fault("())x", 2);
        fault("()x)", 2);
    }

    private static void theTextStaysOrIsEmpty() {
        due.by("THE TEXT tells a TREE, and is empty then: its number.");
        RootedCuts x = saying("(()");
        due.is("tree() too early", x.tree(), -13);
        due.is("tree() once more", x.tree(), -13);
        due.is("type(41) comes to what stayed", x.type(')'), 4);
        due.is("tree()", x.tree(), 1);
        due.is("tree() of what is empty then", x.tree(), -10);
        due.is("type(40)", x.type('('), 1);
        RootedCuts y = saying("()");
        due.is("method() of a TREE", y.method(), -10);
        due.is("tree() of what stayed", y.tree(), 0);
    }
}
