import java.io.File;
import java.lang.reflect.Method;
import java.net.URL;
import java.net.URLClassLoader;
import java.nio.file.Files;
import java.nio.file.Path;
import java.util.ArrayList;
import java.util.List;
import java.util.function.BiConsumer;
import java.util.regex.Matcher;
import java.util.regex.Pattern;
import javax.tools.ToolProvider;

/**
 * The examples of README.md: its java blocks are compiled as one run, and each call must answer the number behind its //
 * (and a text in quotes there must be in hand). Each call of the face must be in one of them.
 */
public final class ReadmeTest {
    private static final Pattern BLOCK = Pattern.compile("```java\n(.*?)```", Pattern.DOTALL);
    /** A statement, over some lines maybe, and what stands behind it on its last line. */
    private static final Pattern STATEMENT = Pattern.compile("(.+?;)[ ]*(?://[ ](.*?))?\n", Pattern.DOTALL);
    private static final Pattern SET = Pattern.compile("(?:int )?(\\w+) = .*", Pattern.DOTALL);
    private static final Pattern ANSWER = Pattern.compile("(-?[0-9]+|true|false)\\b.*");
    private static final Pattern LETTERS = Pattern.compile(".*\"([a-z ]*)\".*");

    private static final Due due = new Due();
    private static final List<String> wanted = new ArrayList<>();

    public static void main(String[] args) throws Exception {
        due.part("README.md");
        String readme = Files.readString(Path.of("README.md"));
        StringBuilder members = new StringBuilder();
        StringBuilder run = new StringBuilder();
        StringBuilder examples = new StringBuilder();
        Matcher block = BLOCK.matcher(readme);
        while (block.find()) {
            examples.append(block.group(1));
            if (block.group(1).startsWith("static ")) {
                members.append(block.group(1));
            } else {
                addStatements(run, block.group(1));
            }
        }
        for (Method method : NameBoard.class.getDeclaredMethods()) {
            boolean open = java.lang.reflect.Modifier.isPublic(method.getModifiers());
            due.is(method.getName() + "() is in an example",
                    !open || examples.indexOf("." + method.getName() + "(") >= 0 ? 1 : 0, 1);
        }
        List<String> told = new ArrayList<>();
        runExamples(members.toString(), run.toString(), told);
        due.is("answers told", told.size(), wanted.size());
        for (int i = 0; i < Math.min(told.size(), wanted.size()); i++) {
            due.is("what", told.get(i), wanted.get(i));
        }
        due.end();
    }

    private static void addStatements(StringBuilder run, String block) {
        Matcher statement = STATEMENT.matcher(block);
        while (statement.find()) {
            String code = statement.group(1).trim();
            String behind = statement.group(2) == null ? "" : statement.group(2);
            Matcher answer = ANSWER.matcher(behind);
            if (!answer.matches()) {
                due.is(code + " has an answer", code.contains("board.") ? 1 : 0, 0);
                run.append(code).append('\n');
                continue;
            }
            String shown = code.replaceAll("\\s+", " ").replace("\"", "'");
            Matcher set = SET.matcher(code);
            if (set.matches()) {
                run.append(code).append("\ntold.accept(\"" + shown + "\", " + set.group(1) + ");\n");
            } else {
                run.append("told.accept(\"" + shown + "\", " + code.substring(0, code.length() - 1) + ");\n");
            }
            wanted.add(shown + " " + answer.group(1));
            Matcher letters = LETTERS.matcher(behind);
            if (letters.matches()) {
                run.append("told.accept(\"in hand\", inHand(board));\n");
                wanted.add("in hand " + letters.group(1));
            }
        }
    }

    private static void runExamples(String members, String run, List<String> told) throws Exception {
        Path dir = Files.createTempDirectory("readme");
        File source = dir.resolve("Examples.java").toFile();
        Files.writeString(source.toPath(), "public final class Examples {\n"
                + members
                + "static String inHand(NameBoard board) {\n"
                + "String s = \"\";\n"
                + "for (int i = 0; board.letter(i) >= 0; i++) { s += (char) board.letter(i); }\n"
                + "return s;\n}\n"
                + "public static void run(java.util.function.BiConsumer<String, Object> told) {\n" + run + "}\n}\n");
        int compiled = ToolProvider.getSystemJavaCompiler().run(null, null, null, "-d", dir.toString(), "-implicit:none",
                "-cp", System.getProperty("java.class.path"), source.toString());
        due.is("the examples compile", compiled, 0);
        if (compiled == 0) {
            BiConsumer<String, Object> teller = (what, answer) -> told.add(what + " " + answer);
            try (URLClassLoader loader = new URLClassLoader(new URL[] {dir.toUri().toURL()})) {
                loader.loadClass("Examples").getMethod("run", BiConsumer.class).invoke(null, teller);
            }
        }
        for (File file : dir.toFile().listFiles()) {
            Files.delete(file.toPath());
        }
        Files.delete(dir);
    }
}
