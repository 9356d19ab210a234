/** Promises 1 to 6 and 16: a new object, type, clear, tree, method, tells, number. */
public final class TextPromises {
    private static final Due due = new Due();

    public static void main(String[] args) {
        newObject();
        type();
        clear();
        treesInTheirNumbers();
        treesInAnyOrder();
        faultsOfTrees();
        methods();
        faultsOfMethods();
        methodToldAnew();
        faultChangesNothing();
        tells();
        number();
        due.end();
    }

    private static void newObject() {
        RootedCuts x = new RootedCuts();
        due.is("STAGES of a new object", x.count(0), 1);
        due.is("SEEN of a new object", x.count(1), 0);
        due.is("letters of a new object", x.count(2), 0);
        due.is("UNDONE of a new object", x.count(3), 0);
        due.is("a 0 0 of a new object", x.number(0, 0), 0);
        due.is("b 0 of a new object", x.number(0, -1), 0);
        due.is("a 0 1 of a new object", x.number(0, 1), -1001);
        for (int r = 0; r < 6; r++) {
            for (int t = 0; t < 17; t++) {
                due.is("a new object's value(" + r + ", " + t + ")", x.value(r, t), 0);
            }
        }
        due.is("undo() of a new object", x.undo(), RootedCuts.STATE);
        due.is("back(0) of a new object", x.back(0), RootedCuts.STATE);
        due.is("which() of a new object", x.which(), 63);
        x.type('(');
        x.flows(0);
        due.is("objects share nothing: letters", new RootedCuts().count(2), 0);
        due.is("objects share nothing: registers", new RootedCuts().value(0, 0), 0);
    }

    private static void type() {
        RootedCuts x = new RootedCuts();
        due.is("type(-1)", x.type(-1), RootedCuts.BAD);
        due.is("type(256)", x.type(256), RootedCuts.BAD);
        due.is("type(MIN)", x.type(Integer.MIN_VALUE), RootedCuts.BAD);
        due.is("type(MAX)", x.type(Integer.MAX_VALUE), RootedCuts.BAD);
        due.is("type(0)", x.type(0), 1);
        due.is("type(255)", x.type(255), 2);
        for (int n = 3; n <= 160; n++) {
            due.is("type(32) as number " + n, x.type(32), n);
        }
        due.is("type(32) of a full text", x.type(32), RootedCuts.FULL);
        due.is("type(256) of a full text", x.type(256), RootedCuts.BAD);
        due.is("letters of a full text", x.count(2), 160);
        due.is("clear() of a full text", x.clear(), 160);
        due.is("type(65) behind it", x.type(65), 1);
    }

    private static void clear() {
        RootedCuts x = new RootedCuts();
        due.is("clear() of an empty text", x.clear(), 0);
        Due.say(x, "abc");
        due.is("clear() of three letters", x.clear(), 3);
        due.is("letters behind clear()", x.count(2), 0);
        due.is("clear() once more", x.clear(), 0);
    }

    private static int treeOf(String text) {
        RootedCuts x = new RootedCuts();
        Due.say(x, text);
        int answer = x.tree();
        due.is("letters behind tree() of " + text, x.count(2), answer < 0 ? text.length() : 0);
        return answer;
    }

    private static void treesInTheirNumbers() {
        String[] told = {
            "()", "(())", "(()())", "((()))",
            "(()()())", "((())())", "((()()))", "(((())))",
            "(()()()())", "((())()())", "((())(()))", "((()())())", "(((()))())",
            "((()()()))", "(((())()))", "(((()())))", "((((()))))"};
        for (int t = 0; t < told.length; t++) {
            due.is("tree() of " + told[t], treeOf(told[t]), t);
        }
    }

    private static void treesInAnyOrder() {
        due.is("tree() of (()(()))", treeOf("(()(()))"), 5);
        due.is("tree() of (()()(()))", treeOf("(()()(()))"), 9);
        due.is("tree() of (()(())())", treeOf("(()(())())"), 9);
        due.is("tree() of (()(()()))", treeOf("(()(()()))"), 11);
        due.is("tree() of (()((())))", treeOf("(()((())))"), 12);
        due.is("tree() of ((()(())))", treeOf("((()(())))"), 14);
        due.is("tree() with blanks", treeOf("  ( ( )(  ( ) )  ) "), 5);
        due.is("tree() with a blank behind", treeOf("() "), 0);
    }

    private static void faultsOfTrees() {
        due.is("tree() of nothing", treeOf(""), -10);
        due.is("tree() of blanks", treeOf("   "), -13);
        due.is("tree() of )", treeOf(")"), -10);
        due.is("tree() of blank )", treeOf(" )"), -11);
        due.is("tree() of a", treeOf("a()"), -10);
        due.is("tree() of (a)", treeOf("(a)"), -11);
        due.is("tree() of ( newline )", treeOf("(\n)"), -11);
        due.is("tree() of ())", treeOf("())"), -12);
        due.is("tree() of ()(", treeOf("()("), -12);
        due.is("tree() of () x", treeOf("() x"), -13);
        due.is("tree() of (", treeOf("("), -11);
        due.is("tree() of (() and blanks", treeOf("(()  "), -15);
        due.is("tree() of six in a row", treeOf("(()()()()())"), -19);
        due.is("tree() of six in a chain", treeOf("((((( ())))))"), -16);
        due.is("tree() of five and one behind", treeOf("((((()))))("), -20);
        due.is("tree() of 160 blanks", treeOf(" ".repeat(160)), -170);
        due.is("tree() of 159 blanks and (", treeOf(" ".repeat(159) + "("), -170);
        due.is("tree() of 159 blanks and )", treeOf(" ".repeat(159) + ")"), -169);
        due.is("tree() of 158 blanks and ()", treeOf(" ".repeat(158) + "()"), 0);
        RootedCuts x = new RootedCuts();
        Due.say(x, "(()");
        due.is("tree() too early", x.tree(), -13);
        x.type(')');
        due.is("tree() when the rest is told", x.tree(), 1);
    }

    private static int methodOf(String text) {
        RootedCuts x = new RootedCuts();
        Due.say(x, text);
        int answer = x.method();
        due.is("letters behind method() of " + text, x.count(2), answer < 0 ? text.length() : 0);
        due.is("UNDONE behind method() of " + text, x.count(3), answer < 0 ? 0 : 1);
        return answer;
    }

    private static void methods() {
        due.is("method() of nothing", methodOf(""), 0);
        due.is("method() of blanks", methodOf("    "), 0);
        due.is("method() of s 1;", methodOf("s 1;"), 1);
        due.is("method() of s4;", methodOf("s4;"), 1);
        due.is("method() of b 0 600;", methodOf("b 0 600;"), 1);
        due.is("method() of b 0 -600;", methodOf("b 0 -600;"), 1);
        due.is("method() of b0-0;", methodOf("b0-0;"), 1);
        due.is("method() without blanks", methodOf("s2;a1 0 30;a1 1-7;b0-5;b1 60;"), 5);
        due.is("method() with blanks", methodOf("  s  2 ;  a 1 0  -  30 ;b 1 60;   "), 3);
        due.is("method() of one number told twice", methodOf("b 0 1;b 0 2;"), 2);
        due.is("method() of 32 ITEMS", methodOf("b0 1;".repeat(32)), 32);
        RootedCuts x = new RootedCuts();
        Due.tell(x, "s3; a 0 1 11; a 1 0 -12; a 2 2 600; a 0 0 5; a 0 0 6; b 0 -600; b 2 7;");
        due.is("STAGES told", x.count(0), 3);
        int[][] a = {{6, 11, 0}, {-12, 0, 0}, {0, 0, 600}};
        int[] b = {-600, 0, 7};
        for (int i = 0; i < 3; i++) {
            due.is("b " + i + " told", x.number(i, -1), b[i]);
            for (int j = 0; j < 3; j++) {
                due.is("a " + i + " " + j + " told", x.number(i, j), a[i][j]);
            }
        }
    }

    private static void faultsOfMethods() {
        String[] told = {
            "|;", "|0;", "|-;", "|x", "|(", "|S 1;", "|\n", "|\u00e9",
            "s|", "s |", "s|;", "s|-1;", "s |0;", "s |5;", "s |04;", "s |1000;", "s |a", "s 2|", "s 2 |3;", "s 2|-;", "s 2|b 0 1;",
            "s 2;|s 2;", "b 0 1;|s 1;", "s 2;b 0 1;|s 2;", "s 2;|;",
            "a|", "a |1 0 1;", "a 0 |1 1;", "s 4; a 3 |4 1;", "s 2; a |2 0 1;", "a 0|", "a 0 0|", "a 0 0|;", "a|-0 0 1;", "a 0|-0 1;",
            "a |00 0 1;", "a 0 0 |601;", "a 0 0 -|601;", "a 0 0 - |999;", "a 0 0 |1000;", "a 0 0 -|-1;", "a 0 0 |01;", "a 0 0 1|", "a 0 0 1 |1;",
            "a 0 0 1  |", "a |103 0 1;", "a 0 0 1|a 0 0 1;", "a 0 0 |99999999999999999999;", "a 0 0 |4294967296;",
            "b|", "b |1 1;", "b 0|", "b 0|;", "b 0 -|", "b 0 -|;", "b 0 - |", "b 0 |601", "b 0 60|", "b 0 60 |x", "b 0|x", "b 0 |00;",
            "b 0 |0060;", "b 0 60|.;", "b 0 1;|1", "b |010;", "b 0 1;  |;", "s 3;b |3 1;", "b 0 1|:", "|A 0 0 1;", "b 0|/", "|B 0 1;"};
        for (String text : told) {
            int place = text.indexOf('|');
            String whole = text.replace("|", "");
            due.is("method() of " + text, methodOf(whole), -10 - place);
        }
        due.is("method() of 160 letters that end too early", methodOf("b0 1;".repeat(31) + "b0 10"), -170);
        due.is("method() of 160 figures", methodOf("1".repeat(160)), -10);
        due.is("method() of b0 and 157 figures", methodOf("b0 " + "1".repeat(157)), -13);
    }

    private static void methodToldAnew() {
        RootedCuts x = new RootedCuts();
        Due.tell(x, "s 3; a 0 0 1; a 2 1 2; b 0 3; b 2 4;");
        x.flows(1);
        x.sees(0, 60);
        x.keep(0);
        Due.tell(x, "s 3; a 1 1 9;");
        due.is("a 0 0 told anew", x.number(0, 0), 0);
        due.is("a 2 1 told anew", x.number(2, 1), 0);
        due.is("a 1 1 told anew", x.number(1, 1), 9);
        due.is("b 0 told anew", x.number(0, -1), 0);
        due.is("b 2 told anew", x.number(2, -1), 0);
        Due.tell(x, "b 0 1;");
        due.is("STAGES as at first", x.count(0), 1);
        due.is("a 1 1, with one STAGE", x.number(1, 1), -1001);
        due.is("REGISTERS stay", x.order(1, 0), 5);
        due.is("what was SEEN stays", x.which(), 2);
        due.is("IMAGES stay", x.back(0), 3);
        due.is("a 2 1 of the IMAGE", x.number(2, 1), 2);
        Due.tell(x, "s 3;");
        due.is("a 2 1, three STAGES told anew", x.number(2, 1), 0);
    }

    private static void faultChangesNothing() {
        RootedCuts x = new RootedCuts();
        Due.tell(x, "s 2; a 1 1 5; b 1 6;");
        Due.say(x, "s 3; a 1 1 7; b 1 8; x");
        due.is("method() with a FAULT", x.method(), -10 - 21);
        due.is("STAGES then", x.count(0), 2);
        due.is("a 1 1 then", x.number(1, 1), 5);
        due.is("b 1 then", x.number(1, -1), 6);
        due.is("UNDONE then", x.count(3), 1);
        due.is("THE TEXT then", x.clear(), 22);
    }

    private static void tells() {
        RootedCuts x = new RootedCuts();
        Due.tell(x, "s 2; a 1 0 30; b 1 60;");
        due.is("tells(1, 0, -600)", x.tells(1, 0, -600), 30);
        due.is("tells(1, 0, 600)", x.tells(1, 0, 600), -600);
        due.is("tells(0, 1, 7)", x.tells(0, 1, 7), 0);
        due.is("tells(0, -1, 8)", x.tells(0, -1, 8), 0);
        due.is("tells(1, -1, 9)", x.tells(1, -1, 9), 60);
        due.is("a 1 0", x.number(1, 0), 600);
        due.is("a 0 1", x.number(0, 1), 7);
        due.is("b 0", x.number(0, -1), 8);
        due.is("b 1", x.number(1, -1), 9);
        due.is("UNDONE behind six", x.count(3), 6);
        due.is("tells(1, -1, 9) once more", x.tells(1, -1, 9), -1002);
        due.is("tells(1, 0, 600) once more", x.tells(1, 0, 600), -1002);
        due.is("tells(0, 0, 0)", x.tells(0, 0, 0), -1002);
        due.is("tells(-1, 0, 0)", x.tells(-1, 0, 0), -1001);
        due.is("tells(2, 0, 0)", x.tells(2, 0, 0), -1001);
        due.is("tells(2, -1, 0)", x.tells(2, -1, 0), -1001);
        due.is("tells(0, -2, 0)", x.tells(0, -2, 0), -1001);
        due.is("tells(0, 2, 0)", x.tells(0, 2, 0), -1001);
        due.is("tells(0, 0, 601)", x.tells(0, 0, 601), -1001);
        due.is("tells(0, 0, -601)", x.tells(0, 0, -601), -1001);
        due.is("tells(MAX, MAX, 0)", x.tells(Integer.MAX_VALUE, Integer.MAX_VALUE, 0), -1001);
        due.is("tells(MIN, MIN, 0)", x.tells(Integer.MIN_VALUE, Integer.MIN_VALUE, 0), -1001);
        due.is("undo() of tells(1, -1, 9)", x.undo(), 5);
        due.is("b 1 UNDONE", x.number(1, -1), 60);
    }

    private static void number() {
        RootedCuts x = new RootedCuts();
        due.is("number(0, 0)", x.number(0, 0), 0);
        due.is("number(0, 1)", x.number(0, 1), -1001);
        due.is("number(1, -1)", x.number(1, -1), -1001);
        due.is("number(0, -2)", x.number(0, -2), -1001);
        due.is("number(-1, 0)", x.number(-1, 0), -1001);
        Due.tell(x, "s 4; a 3 2 -11; b 3 12;");
        due.is("number(3, 2)", x.number(3, 2), -11);
        due.is("number(2, 3)", x.number(2, 3), 0);
        due.is("number(3, -1)", x.number(3, -1), 12);
        due.is("number(4, 0)", x.number(4, 0), -1001);
        due.is("number(0, 4)", x.number(0, 4), -1001);
        due.is("number(MIN, MAX)", x.number(Integer.MIN_VALUE, Integer.MAX_VALUE), -1001);
    }
}
