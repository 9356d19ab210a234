import java.nio.file.Files;
import java.nio.file.Path;
import java.util.ArrayList;
import java.util.List;
import java.util.regex.Matcher;
import java.util.regex.Pattern;
import javax.tools.JavaCompiler;
import javax.tools.ToolProvider;

/** README.md: its examples are compiled and run, with their answers; its table has each call once. */
public final class ReadmeShows {
    private static final Pattern BLOCK = Pattern.compile("(?s)```java\n(.*?)```");
    private static final Pattern SHOWN =
        Pattern.compile("^(x\\.\\w+\\(.*?\\));\\s+// (-?\\d+|BAD|STATE|FULL|NONE|NEVER)\\b.*$");
    private static final Pattern CALL = Pattern.compile("(?m)^    public (?:int|long|)\\s?(\\w+)\\(([^)]*)\\)");
    private static final Pattern CONSTANT = Pattern.compile("(\\b[A-Z]+) = (-\\d+)");

    private static final Due due = new Due();

    public static void main(String[] args) throws Exception {
        Path main = Path.of(args[0]).toAbsolutePath();
        String readme = Files.readString(main.getParent().getParent().getParent().getParent().resolve("README.md"));
        String source = Files.readString(main);
        calls(readme, source);
        constants(readme, source);
        examples(readme);
        due.end();
    }

    private static void calls(String readme, String source) {
        due.by("README.md has a row for each call");
        Matcher m = CALL.matcher(source);
        int found = 0;
        while (m.find()) {
            found++;
            String call = m.group(1) + "(" + m.group(2).replaceAll("\\b(int|long) ", "") + ")";
            due.is(call, occurrences(readme, "\n| `" + call + "` |"), 1);
        }
        due.is("calls", found, 29);
        due.is("rows", occurrences(readme, "\n| `"), 29);
    }

    private static void constants(String readme, String source) {
        due.by("README.md tells the constants");
        Matcher m = CONSTANT.matcher(source.substring(0, source.indexOf("NUMBER_BAD")));
        int found = 0;
        while (m.find()) {
            found++;
            String told = Pattern.quote("`" + m.group(1) + "`") + "( is)? " + Pattern.quote(m.group(2)) + "\\b";
            due.is(m.group(1), Pattern.compile(told).matcher(readme).find() ? 1 : 0, 1);
        }
        due.is("constants", found, 5);
    }

    private static int occurrences(String text, String part) {
        return text.split(Pattern.quote(part), -1).length - 1;
    }

    /** A block of its own methods is put beside main, any other one has its own scope in it. */
    private static void examples(String readme) throws Exception {
        due.by("README.md's examples");
        StringBuilder methods = new StringBuilder();
        StringBuilder scopes = new StringBuilder();
        int answers = 0;
        Matcher m = BLOCK.matcher(readme);
        while (m.find()) {
            if (m.group(1).startsWith("static ")) {
                methods.append(m.group(1));
                continue;
            }
            List<String> lines = new ArrayList<>();
            for (String line : m.group(1).split("\n")) {
                Matcher shown = SHOWN.matcher(line);
                boolean answered = shown.matches();
                answers += answered ? 1 : 0;
                due.is("an answer is told in: " + line, answered || !line.startsWith("x.") ? 1 : 0, 1);
                lines.add(answered ? asked(shown.group(1), shown.group(2)) : line);
            }
            scopes.append("{\n").append(String.join("\n", lines)).append("\n}\n");
        }
        due.is("there are answers", answers > 0 ? 1 : 0, 1);
        due.is("answers that are not as told", run(methods.toString(), scopes.toString()), 0);
    }

    private static String asked(String call, String answer) {
        String want = answer.matches("[A-Z]+") ? "RootedCuts." + answer : answer + "L";
        return "wrong += is(\"" + call + "\", " + call + ", " + want + ");";
    }

    private static int run(String methods, String scopes) throws Exception {
        Path out = Files.createTempDirectory("readme");
        Path file = out.resolve("Shown.java");
        Files.writeString(file, "public final class Shown {\n"
            + "static int is(String call, long got, long want) {\n"
            + "if (got != want) System.out.println(call + \" answered \" + got + \", README.md says \" + want);\n"
            + "return got == want ? 0 : 1; }\n"
            + methods
            + "public static int wrong() { int wrong = 0;\n" + scopes + "return wrong; }\n}\n");
        JavaCompiler javac = ToolProvider.getSystemJavaCompiler();
        int failed = javac.run(null, null, null, "-cp", System.getProperty("java.class.path"), "-d", out.toString(), file.toString());
        int wrong = failed;
        if (failed == 0) {
            try (java.net.URLClassLoader loader = new java.net.URLClassLoader(new java.net.URL[] {out.toUri().toURL()})) {
                wrong = (Integer) loader.loadClass("Shown").getMethod("wrong").invoke(null);
            }
        }
        for (Path made : List.of(file, out.resolve("Shown.class"), out)) {
            Files.deleteIfExists(made);
        }
        return wrong;
    }
}
