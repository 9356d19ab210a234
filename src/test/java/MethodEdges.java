/** The document's sentences about the METHOD, told by THE TEXT or number by number, at their edges. */
public final class MethodEdges {
    private static final int REFUSED = -1001, SAME = -1002;
    private static final Due due = new Due();

    public static void main(String[] args) {
        anyLetterAnywhere();
        stagesOneToFour();
        stagesAtFirst();
        stagesFirstOfAll();
        stagesThatThereAreNot();
        anyNumberAsStage();
        anyNumberAsValue();
        zeroAheadOfOthers();
        aboveNineHundredNinetyNine();
        signs();
        blanksBetweenNumbers();
        blanksElsewhere();
        noItems();
        itemsCounted();
        methodsThatEndTooEarly();
        theFirstOfTwoFaults();
        laterItemsWin();
        toldAnew();
        faultLeavesAll();
        numbersAtFirst();
        numbersThatThereAre();
        tellsWhichThereAre();
        tellsFromEdgeToEdge();
        tellsWhatItIs();
        due.end();
    }

    private static RootedCuts saying(String text) {
        RootedCuts x = new RootedCuts();
        Due.say(x, text);
        return x;
    }

    private static RootedCuts method(String text, int want) {
        RootedCuts x = saying(text);
        due.is("method() of '" + text + "'", x.method(), want);
        due.is("letters behind method() of '" + text + "'", x.count(2), want < 0 ? text.length() : 0);
        due.is("UNDONE behind method() of '" + text + "'", x.count(3), want < 0 ? 0 : 1);
        return x;
    }

    private static void fault(String text, int place) {
        method(text, -10 - place);
    }

    /** A | shows the place. */
    private static void faultAt(String text) {
        fault(text.replace("|", ""), text.indexOf('|'));
    }

    // ---- the text

    /** One row each: what is told, then the letters that can stand behind it. */
    private static final String[][] BEHIND = {
        {"", "sab"}, {"  ", "sab"}, {"s", "1234"}, {"s ", "1234"}, {"s 2 ", ";"}, {"s 2;", "ab"}, {"s 2; ", "ab"},
        {"s 2; a", "01"}, {"s 2; a ", "01"}, {"s 2; a 1 ", "01"}, {"s 3; a 1 ", "012"}, {"s 4; a 1 ", "0123"}, {"a ", "0"},
        {"a 0 0 ", "-0123456789"}, {"a 0 0 -", "0123456789"}, {"a 0 0 - ", "0123456789"}, {"a 0 0 5 ", ";"}, {"a 0 0 5; ", "ab"},
        {"s 2; b", "01"}, {"s 2; b ", "01"}, {"b ", "0"}, {"b 0 ", "-0123456789"}, {"b 0 -", "0123456789"},
        {"b 0 5 ", ";"}, {"b 0 5;", "ab"}, {"b 0 -5 ", ";"}};

    /** One row each: a NUMBER that is not ended, its place, figures that it can go on with. */
    private static final String[][] FIGURES = {
        {"b 0 5", "4", "0123456789;"}, {"b 0 60", "4", "0;"}, {"b 0 -60", "5", "0;"}, {"b 0 59", "4", "0123456789;"},
        {"b 0 61", "4", ";"}, {"b 0 99", "4", ";"}, {"b 0 600", "4", ";"}, {"b 0 0", "4", ";"}, {"b 0 -0", "5", ";"},
        {"s 1", "2", ";"}, {"s 4", "2", ";"}, {"b 0", "2", "-"}, {"s 2; a 1 1", "9", "-"}};

    private static void anyLetterAnywhere() {
        due.by("TOKENS are the letters s, a, b, the sign -, NUMBERS (rows of figures) and ; .");
        for (String[] row : BEHIND) {
            for (int letter = 0; letter < 256; letter++) {
                letterBehind(row[0], (char) letter, row[1], row[0].length());
            }
        }
        for (String[] row : FIGURES) {
            for (int letter = 0; letter < 256; letter++) {
                boolean figure = letter >= '0' && letter <= '9';
                letterBehind(row[0], (char) letter, row[2], figure ? Integer.parseInt(row[1]) : row[0].length());
            }
        }
    }

    private static void letterBehind(String told, char letter, String stand, int place) {
        String text = told + letter;
        boolean whole = text.isBlank() || text.strip().endsWith(";");
        if (letter != ' ' && stand.indexOf(letter) < 0) {
            fault(text, place);
        } else if (whole) {
            method(text, (int) text.chars().filter(c -> c == ';').count());
        } else {
            fault(text, text.length());
        }
    }

    private static void stagesOneToFour() {
        due.by("A METHOD has STAGES (1 to 4; 1 at first)");
        for (int n = 1; n <= 4; n++) {
            RootedCuts x = method("s " + n + ";", 1);
            due.is("STAGES", x.count(0), n);
            due.is("number(n - 1, n - 1)", x.number(n - 1, n - 1), 0);
            due.is("number(n, 0)", x.number(n, 0), REFUSED);
        }
        for (int n : new int[] {0, 5, 6, 10, 14, 41, 100, 600, 999, 1000, 1001}) {
            fault("s " + n + ";", 2);
        }
        fault("s -1;", 2);
        fault("s 01;", 2);
        fault("s ;", 2);
    }

    private static void stagesAtFirst() {
        due.by("STAGES (1 to 4; 1 at first)");
        due.is("STAGES of a new object", new RootedCuts().count(0), 1);
        due.is("STAGES of no ITEMS", method("", 0).count(0), 1);
        due.is("STAGES without s", method("b 0 1;", 1).count(0), 1);
        faultAt("a |1 0 1;");
        faultAt("a 0 |1 1;");
        faultAt("b |1 1;");
    }

    private static void stagesFirstOfAll() {
        due.by("s N (STAGES; the first of all, if it is told)");
        method("s 4;b 3 1;", 2);
        method("  s 4;", 1);
        faultAt("b 0 1;|s 1;");
        faultAt("b 0 1; |s 4;");
        faultAt("a 0 0 1;|s 1;");
        faultAt("s 1;|s 1;");
        faultAt("s 2; b 1 1; |s 2;");
        faultAt("s 2;   |s");
    }

    private static void stagesThatThereAreNot() {
        due.by("a STAGE that there is not");
        for (int n = 1; n <= 4; n++) {
            String s = "s " + n + ";";
            int last = n - 1;
            RootedCuts x = method(s + "a " + last + " 0 7;a 0 " + last + " 8;a " + last + " " + last + " 9;b " + last + " 6;", 5);
            due.is("a last last", x.number(last, last), 9);
            due.is("b last", x.number(last, -1), 6);
            faultAt(s + "a |" + n + " 0 7;");
            faultAt(s + "a 0 |" + n + " 7;");
            faultAt(s + "b |" + n + " 7;");
        }
        faultAt("s 4;a |-1 0 7;");
        faultAt("s 4;b |-1 7;");
    }

    private static void anyNumberAsStage() {
        due.by("a STAGE that there is not");
        for (int n = 0; n <= 1100; n++) {
            if (n < 3) {
                method("s3;a " + n + " 0 1;", 2);
                method("s3;a 0 " + n + " 1;", 2);
                method("s3;b " + n + " 1;", 2);
            } else {
                fault("s3;a " + n + " 0 1;", 5);
                fault("s3;a 0 " + n + " 1;", 7);
                fault("s3;b " + n + " 1;", 5);
            }
        }
    }

    private static void anyNumberAsValue() {
        due.by("all in sixtieths (-600 to 600; 0 at first)");
        for (int n = 0; n <= 1100; n++) {
            if (n <= 600) {
                due.is("b 0", method("b 0 " + n + ";", 1).number(0, -1), n);
                due.is("b 0", method("b 0 -" + n + ";", 1).number(0, -1), -n);
                due.is("a 0 0", method("a 0 0 " + n + ";", 1).number(0, 0), n);
                due.is("a 0 0", method("a 0 0-" + n + ";", 1).number(0, 0), -n);
            } else {
                fault("b 0 " + n + ";", 4);
                fault("b 0 -" + n + ";", 5);
                fault("a 0 0 " + n + ";", 6);
                fault("a 0 0-" + n + ";", 6);
            }
        }
    }

    private static void zeroAheadOfOthers() {
        due.by("with a 0 ahead of others, that TOKEN's");
        method("b 0 0;", 1);
        method("b 0 -0;", 1);
        method("b 0 10;", 1);
        method("b 0 100;", 1);
        String[] told = {
            "b 0 |00;", "b 0 |01;", "b 0 |000;", "b 0 |0600;", "b 0 -|01;", "b |00 1;", "a |00 0 1;", "a 0 |00 1;", "s |01;",
            "s |00;", "b 0 |01", "b 0 |00 ", "b 0 |" + "0".repeat(156)};
        for (String text : told) {
            faultAt(text);
        }
    }

    private static void aboveNineHundredNinetyNine() {
        due.by("a NUMBER above 999");
        // 2^32 and 2^64 and what would be 1 more than they are: as an int or a long that is 0, or 1.
        String[] numbers = {
            "999", "1000", "9999", "4294967296", "4294967297", "18446744073709551616", "18446744073709551617",
            "1" + "0".repeat(100), "9".repeat(140)};
        for (String n : numbers) {
            faultAt("b 0 |" + n + ";");
            faultAt("b 0 |" + n);
            faultAt("b 0 -|" + n + ";");
            faultAt("b |" + n + " 1;");
            faultAt("a 0 |" + n + " 1;");
            faultAt("s |" + n + ";");
        }
        faultAt("|999");
        faultAt("|1000");
        faultAt("b 0 1 |1000;");
    }

    private static void signs() {
        due.by("V is a NUMBER, or - and a NUMBER.");
        due.is("b 0", method("b 0 7;", 1).number(0, -1), 7);
        due.is("b 0", method("b 0 -7;", 1).number(0, -1), -7);
        due.is("b 0", method("b 0 - 7;", 1).number(0, -1), -7);
        due.is("b 0", method("b 0 -0;", 1).number(0, -1), 0);
        String[] told = {
            "b 0 -|-7;", "b 0 - |- 7;", "b 0 |+7;", "b 0 -|;", "b 0 7|-;", "b 0 |;", "b 0 -|", "b |-0 7;", "a 0 |-0 7;", "s |-1;",
            "b 0 -|a", "b 0 -|+7;"};
        for (String text : told) {
            faultAt(text);
        }
    }

    private static void blanksBetweenNumbers() {
        due.by("(needed between two NUMBERS alone)");
        due.is("a 1 0", method("s2;a1 0 30;", 2).number(1, 0), 30);
        due.is("a 1 1", method("s2;a1 1-30;", 2).number(1, 1), -30);
        due.is("b 1", method("s2;b1-30;", 2).number(1, -1), -30);
        faultAt("s2;a|10 30;");
        faultAt("s2;a1 0|;");
        faultAt("s2;a1 |030;");
        faultAt("s2;b|130;");
        faultAt("b0 3 |0;");
        faultAt("b0 -3 |0;");
        faultAt("s1 |1;");
    }

    private static void blanksElsewhere() {
        due.by("for a METHOD they may stand ahead of, between and behind TOKENS");
        due.is("a 1 0", method("  s  2  ;  a  1  0  -  30  ;  ", 2).number(1, 0), -30);
        method("s2;a1 0-30;b1 60;", 3);
        method(" ".repeat(157) + "s2;", 1);
        method("s2;" + " ".repeat(157), 1);
        method("b" + " ".repeat(155) + "0-1;", 1);
        for (int at = 0; at <= 9; at++) {
            String told = "a 0 0 - 5;";
            String text = told.substring(0, at) + "\t" + told.substring(at);
            fault(text, at);
        }
    }

    private static void noItems() {
        due.by("It is a text of ITEMS (none, too), each ended by ;");
        for (int n = 0; n <= 160; n++) {
            method(" ".repeat(n), 0);
        }
        faultAt("|;");
        faultAt("  |;");
        faultAt("b 0 1;|;");
        faultAt("s 1;|;");
    }

    private static void itemsCounted() {
        due.by("THE TEXT tells a METHOD, and is empty then: how many ITEMS.");
        for (int n = 0; n <= 32; n++) {
            method("b0 1;".repeat(n), n);
        }
        method("s1;" + "b0-1;".repeat(31), 32);
        RootedCuts x = saying("b 0 1;");
        due.is("method()", x.method(), 1);
        due.is("method() of what is empty then", x.method(), 0);
        due.is("b 0 then", x.number(0, -1), 0);
    }

    private static void methodsThatEndTooEarly() {
        due.by("the text's length, if it ends too early.");
        String told = "s 2; a 1 0 -30; b 1 600; ";
        for (int n = 0; n <= told.length(); n++) {
            String text = told.substring(0, n);
            boolean whole = text.isEmpty() || text.strip().endsWith(";");
            if (whole) {
                method(text, (int) text.chars().filter(c -> c == ';').count());
            } else {
                fault(text, n);
                fault(text + "  ", n + 2);
            }
        }
        fault(" ".repeat(159) + "s", 160);
        fault("b0 1;".repeat(31) + "b0 10", 160);
        fault(" ".repeat(159) + ";", 159);
        fault("b0 1;".repeat(31) + "b0 1x", 159);
    }

    private static void theFirstOfTwoFaults() {
        due.by("the place of the first letter of the first TOKEN that can't stand there");
        String[] told = {
            "b |7 x", "|x b 7", "b 0 |601 1000;", "b 0 |1000 601;", "b 0 |601", "b |1 1000;", "s |5; s 5;", "b 0 1; |s 9;", "|999 b",
            "b 0 60|-1;", "b 0|;;", "b 0 1|b 0 x;"};
        for (String text : told) {
            faultAt(text);
        }
    }

    private static void laterItemsWin() {
        due.by("a I J V (a I J becomes V)");
        RootedCuts x = method("s 2; a 0 1 600; a 0 1 -600; a 1 0 5; b 0 9; b 0 0;", 6);
        due.is("a 0 1", x.number(0, 1), -600);
        due.is("a 1 0", x.number(1, 0), 5);
        due.is("a 0 0", x.number(0, 0), 0);
        due.is("b 0", x.number(0, -1), 0);
    }

    private static void toldAnew() {
        due.by("(A METHOD told anew: what it does not tell is as at first; REGISTERS, what was SEEN, IMAGES stay.)");
        RootedCuts x = new RootedCuts();
        Due.tell(x, "s 4; a 3 3 5; a 0 0 6; b 3 7; b 0 8;");
        x.loads(0);
        x.sees(0, 15);
        x.keep(1);
        Due.tell(x, "");
        due.is("STAGES", x.count(0), 1);
        due.is("a 0 0", x.number(0, 0), 0);
        due.is("b 0", x.number(0, -1), 0);
        due.is("value(0, 0)", x.value(0, 0), 15);
        due.is("which()", x.which(), 1);
        Due.tell(x, "s 4;");
        due.is("a 3 3 of four STAGES again", x.number(3, 3), 0);
        due.is("b 3 of four STAGES again", x.number(3, -1), 0);
        due.is("undo()", x.undo(), 3);
        due.is("undo()", x.undo(), 2);
        due.is("a 3 3 behind undo()", x.number(3, 3), 5);
        Due.tell(x, "");
        due.is("back(1)", x.back(1), 4);
        due.is("b 3 of the IMAGE", x.number(3, -1), 7);
    }

    private static void faultLeavesAll() {
        due.by("-10 less FAULT of a METHOD: nothing changes, THE TEXT stays.");
        RootedCuts x = new RootedCuts();
        Due.tell(x, "s 2; a 1 1 5; b 1 6;");
        Due.say(x, "s 4; a 1 1 7; b 1 8; b 3 -600");
        for (int n = 0; n < 3; n++) {
            due.is("method()", x.method(), -10 - 29);
            due.is("STAGES", x.count(0), 2);
            due.is("a 1 1", x.number(1, 1), 5);
            due.is("b 1", x.number(1, -1), 6);
            due.is("UNDONE", x.count(3), 1);
        }
        due.is("type(59) comes to what stayed", x.type(';'), 30);
        due.is("method()", x.method(), 4);
        due.is("b 3", x.number(3, -1), -600);
        due.is("undo()", x.undo(), 1);
        due.is("b 1", x.number(1, -1), 6);
    }

    // ---- tells, number

    private static void numbersAtFirst() {
        due.by("A METHOD of one STAGE, all its numbers 0; all REGISTERS' numbers 0.");
        RootedCuts x = new RootedCuts();
        due.is("count(0)", x.count(0), 1);
        due.is("number(0, 0)", x.number(0, 0), 0);
        due.is("number(0, -1)", x.number(0, -1), 0);
        due.is("number(1, 0)", x.number(1, 0), REFUSED);
        due.is("number(0, 1)", x.number(0, 1), REFUSED);
        due.is("number(1, -1)", x.number(1, -1), REFUSED);
        due.is("value(0, 0)", x.value(0, 0), 0);
        due.is("value(5, 16)", x.value(5, 16), 0);
        due.is("loads(0) of it", x.loads(0), 0);
        due.is("which(): all REGISTERS are alike still", x.which(), 63);
        due.is("like(0, 5)", x.like(0, 5), 5);
    }

    private static void numbersThatThereAre() {
        due.by("A number of the METHOD: a i j, or b i (j = -1). -1001: BAD.");
        RootedCuts x = method("s 2; a 0 0 -600; a 0 1 600; a 1 0 1; a 1 1 2; b 0 3; b 1 -4;", 7);
        int[][] there = {{3, -600, 600}, {-4, 1, 2}};
        for (int i = -2; i <= 4; i++) {
            for (int j = -3; j <= 4; j++) {
                boolean is = i >= 0 && i < 2 && j >= -1 && j < 2;
                due.is("number(" + i + ", " + j + ")", x.number(i, j), is ? there[i][j + 1] : REFUSED);
            }
        }
        due.is("number(MIN, -1)", x.number(Integer.MIN_VALUE, -1), REFUSED);
        due.is("number(MAX, -1)", x.number(Integer.MAX_VALUE, -1), REFUSED);
        due.is("number(0, MIN)", x.number(0, Integer.MIN_VALUE), REFUSED);
        due.is("number(0, MAX)", x.number(0, Integer.MAX_VALUE), REFUSED);
    }

    private static void tellsWhichThereAre() {
        due.by("a i j (j 0 on) or b i (j = -1) becomes v: what it was. -1001: BAD");
        int[] places = {Integer.MIN_VALUE, -5, -2, -1, 0, 1, 2, 3, 4, 5, 16, 17, Integer.MAX_VALUE};
        for (int stages = 1; stages <= 4; stages++) {
            RootedCuts x = new RootedCuts();
            Due.tell(x, "s " + stages + ";");
            for (int i : places) {
                for (int j : places) {
                    boolean there = i >= 0 && i < stages && j >= -1 && j < stages;
                    String of = "(" + i + ", " + j + ") of " + stages + " STAGES";
                    due.is("number" + of, x.number(i, j), there ? 0 : REFUSED);
                    due.is("tells" + of, x.tells(i, j, 10 * i + j + 2), there ? 0 : REFUSED);
                }
            }
            for (int i = 0; i < stages; i++) {
                for (int j = -1; j < stages; j++) {
                    due.is("number(" + i + ", " + j + ") then", x.number(i, j), 10 * i + j + 2);
                }
            }
        }
    }

    private static void tellsFromEdgeToEdge() {
        due.by("a number a i j, for each STAGE j a number b j, all in sixtieths (-600 to 600; 0 at first)");
        for (int j = -1; j <= 0; j++) {
            RootedCuts x = new RootedCuts();
            due.is("tells -600", x.tells(0, j, -600), 0);
            for (int v : new int[] {-601, 601, -1000, 1000, Integer.MIN_VALUE, Integer.MAX_VALUE, 65536, -65536}) {
                due.is("tells " + v, x.tells(0, j, v), REFUSED);
                due.is("number behind it", x.number(0, j), -600);
            }
            due.is("tells 600", x.tells(0, j, 600), -600);
            due.is("number", x.number(0, j), 600);
            due.is("tells 599", x.tells(0, j, 599), 600);
            due.is("tells -599", x.tells(0, j, -599), 599);
            due.is("UNDONE", x.count(3), 4);
        }
    }

    private static void tellsWhatItIs() {
        due.by("-1002: STATE: it is that.");
        RootedCuts x = new RootedCuts();
        due.is("tells(0, 0, 0) at first", x.tells(0, 0, 0), SAME);
        due.is("tells(0, -1, 0) at first", x.tells(0, -1, 0), SAME);
        due.is("tells(1, 0, 0), no such STAGE", x.tells(1, 0, 0), REFUSED);
        due.is("UNDONE", x.count(3), 0);
        for (int v : new int[] {-600, -1, 1, 600, 0}) {
            x.tells(0, 0, v);
            due.is("tells(0, 0, " + v + ") once more", x.tells(0, 0, v), SAME);
        }
        due.is("UNDONE", x.count(3), 5);
        x.tells(0, 0, 7);
        x.undo();
        due.is("tells(0, 0, 0) behind undo()", x.tells(0, 0, 0), SAME);
        due.is("tells(0, 0, 7) behind undo()", x.tells(0, 0, 7), 0);
    }
}
