import java.lang.reflect.Constructor;
import java.lang.reflect.Field;
import java.lang.reflect.Method;
import java.lang.reflect.Modifier;
import java.nio.file.Files;
import java.nio.file.Path;
import java.util.ArrayList;
import java.util.Arrays;
import java.util.List;
import java.util.TreeSet;
import java.util.regex.Matcher;
import java.util.regex.Pattern;

/** The document's face, and those rules of LANGUAGE.md that can be seen from outside or by words. */
public final class LanguageRules {
    private static final Due due = new Due();
    private static final String[] FACE = {
        "type(int)int", "clear()int", "tree()int", "method()int", "tells(int,int,int)int", "loads(int)int",
        "flows(int)int", "composes(int,int,int)int", "inverts(int,int)int", "stretches(int,int,int)int",
        "reverses(int,int)int", "puts(int,int,int)int", "undo()int", "value(int,int)long", "number(int,int)int",
        "about(int,int)int", "child(int,int)int", "cut(int,int,int)int", "grafted(int,int)int", "leaves(int,int)int",
        "order(int,int)int", "like(int,int)int", "sees(int,long)int", "forget()int", "which()int", "keep(int)int",
        "back(int)int", "count(int)int"};
    private static final String[] CONSTANTS = {"int BAD", "int STATE", "int FULL", "int NONE", "long NEVER"};
    private static final String[] NEVER_SAID = {
        "\\bthrows?\\b", "\\btry\\b", "\\bcatch\\b", "\\bfinally\\b", "\\bsynchronized\\b", "\\bassert\\b", "->", "::",
        "\\bpackage\\b", "\\w+Exact\\b", "\\bprotected\\b", "\\bvolatile\\b", "\\bnative\\b", "\\bthis\\s*\\(",
        "\\bhashCode\\b", "\\btoString\\b", "\\bequals\\b", "\\bThread\\b", "\\bRandom\\b", "\\brandom\\b",
        "\\bstatic\\s*\\{", "\\[\\]\\[\\]\\[\\]", "\\bvar\\b", "\\bdouble\\b", "\\bfloat\\b",
        "\\bwhile\\s*\\(\\s*true", "\\bfor\\s*\\(\\s*;", "System\\.(?!arraycopy)", "Arrays\\.(?!fill|copyOf)",
        "Math\\.(?!min|max|abs)", "import (?!java\\.util\\.Arrays;)", "@\\w+"};

    public static void main(String[] args) throws Exception {
        due.is("how many files are named", args.length, 1);
        face();
        classesInside();
        words(withoutComments(Files.readString(Path.of(args[0]))));
        due.end();
    }

    private static void not(String what, boolean so) {
        due.is(what, so ? 1 : 0, 0);
    }

    private static void face() throws Exception {
        Class<?> c = RootedCuts.class;
        not("RootedCuts is not public and final", !Modifier.isPublic(c.getModifiers()) || !Modifier.isFinal(c.getModifiers()));
        Constructor<?>[] made = c.getDeclaredConstructors();
        due.is("constructors", made.length, 1);
        not("the constructor takes something", made[0].getParameterCount() != 0);
        not("the constructor is not public", !Modifier.isPublic(made[0].getModifiers()));
        TreeSet<String> open = new TreeSet<>();
        for (Method m : c.getDeclaredMethods()) {
            if (!Modifier.isPrivate(m.getModifiers())) {
                open.add(signature(m));
                not(m + " is not public, or static", !Modifier.isPublic(m.getModifiers()) || Modifier.isStatic(m.getModifiers()));
            }
        }
        not("the face is " + open, !open.equals(new TreeSet<>(Arrays.asList(FACE))));
        TreeSet<String> constants = new TreeSet<>();
        for (Field f : c.getDeclaredFields()) {
            if (!Modifier.isPrivate(f.getModifiers())) {
                constants.add(f.getType() + " " + f.getName());
                not(f + " is no constant", f.getModifiers() != (Modifier.PUBLIC | Modifier.STATIC | Modifier.FINAL));
            }
        }
        not("the constants are " + constants, !constants.equals(new TreeSet<>(Arrays.asList(CONSTANTS))));
        due.is("BAD", RootedCuts.BAD, -1);
        due.is("STATE", RootedCuts.STATE, -2);
        due.is("FULL", RootedCuts.FULL, -3);
        due.is("NONE", RootedCuts.NONE, -9);
        due.is("NEVER", RootedCuts.NEVER, -9000000000000000000L);
    }

    private static String signature(Method m) {
        List<String> takes = new ArrayList<>();
        for (Class<?> p : m.getParameterTypes()) {
            takes.add(p.getName());
        }
        return m.getName() + "(" + String.join(",", takes) + ")" + m.getReturnType().getName();
    }

    private static void classesInside() {
        TreeSet<String> names = new TreeSet<>();
        for (String signature : FACE) {
            names.add(signature.substring(0, signature.indexOf('(')));
        }
        Class<?>[] inside = RootedCuts.class.getDeclaredClasses();
        not("there are more than 12 classes", inside.length + 1 > 12);
        for (Class<?> c : inside) {
            not(c + " is not static", !Modifier.isStatic(c.getModifiers()));
            not(c + " is public or protected", (c.getModifiers() & (Modifier.PUBLIC | Modifier.PROTECTED)) != 0);
            membersOf(c, names);
        }
        membersOf(RootedCuts.class, names);
    }

    private static void membersOf(Class<?> c, TreeSet<String> publicNames) {
        int fields = 0;
        for (Field f : c.getDeclaredFields()) {
            boolean isStatic = Modifier.isStatic(f.getModifiers());
            fields += isStatic ? 0 : 1;
            not(f + " is static and not final", isStatic && !Modifier.isFinal(f.getModifiers()));
            not(f + " is synthetic", f.isSynthetic());
        }
        not(c + " has more than 20 fields", fields > 20);
        for (Method m : c.getDeclaredMethods()) {
            not(m + " takes more than 7", m.getParameterCount() > 7);
            not(m + " is synthetic", m.isSynthetic());
            not(m + " bears a public name", !Modifier.isPublic(m.getModifiers()) && publicNames.contains(m.getName()));
        }
    }

    private static String withoutComments(String source) {
        return source.replaceAll("(?s)/\\*.*?\\*/", "").replaceAll("//[^\n]*", "");
    }

    private static void words(String source) {
        for (String word : NEVER_SAID) {
            Matcher m = Pattern.compile(word).matcher(source);
            boolean found = m.find();
            not("the file says " + (found ? m.group() : word), found);
        }
        String[] lines = source.split("\n");
        int from = 0;
        for (int i = 0; i < lines.length; i++) {
            if (lines[i].matches("\\s+(public|private|static|final|int|long|void|boolean|[A-Z]\\w*)\\b.*\\) \\{")) {
                from = i;
            }
            not("line " + (i + 1) + " is of a method of more than 60 lines", lines[i].matches(" {4}(?: {4})?\\}") && i - from > 60);
        }
    }
}
