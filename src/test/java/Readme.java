import java.io.File;
import java.io.IOException;
import java.io.PrintWriter;
import java.io.StringWriter;
import java.net.URL;
import java.net.URLClassLoader;
import java.nio.file.Files;
import java.nio.file.Path;
import java.util.ArrayList;
import java.util.List;
import java.util.Optional;
import java.util.regex.Matcher;
import java.util.regex.Pattern;
import java.util.spi.ToolProvider;

/**
 * The examples of a README: blocks fenced as java. A block that begins with a method or its comment is helpers for
 * the others; each other one makes a ledger and calls it, a call a line, with its answer behind it.
 */
final class Readme {
    private static final Pattern CALL = Pattern.compile(
        "((?:x\\.\\w+|tell)\\(.*\\)); +// (-?\\d+|NONE|Long\\.MIN_VALUE|throws \\w+)(: \\S.*)?");
    private static final String NEW = "LeaseLedger x = new LeaseLedger();";
    private static final String RUN = "ReadmeRun";

    /** A call of an example, its line in the README, and the answer that stands behind it. */
    record Call(int line, String call, String answer) {
        /** The answer as the class would print it. */
        String due() {
            return answer.equals("NONE") ? "" + LeaseLedger.NONE
                : answer.equals("Long.MIN_VALUE") ? "" + Long.MIN_VALUE : answer;
        }
    }

    final List<Call> calls = new ArrayList<>();
    /** What stands in an example and is neither a new ledger nor a call with its answer. */
    final List<String> strange = new ArrayList<>();
    private final StringBuilder helpers = new StringBuilder();
    private final StringBuilder examples = new StringBuilder();
    private int blocks = 0;

    Readme(String text) {
        String[] lines = text.split("\n", -1);
        for (int i = 0; i < lines.length; i++) {
            if (lines[i].equals("```java")) {
                int from = i + 1;
                while (i + 1 < lines.length && !lines[i + 1].equals("```")) {
                    i++;
                }
                read(lines, from, i + 1);
                i++;
            } else if (lines[i].strip().startsWith("```java") || lines[i].strip().startsWith("``` java")) {
                strange.add("line " + (i + 1) + ": " + lines[i]);
            }
        }
    }

    private void read(String[] lines, int from, int behind) {
        if (from < behind && (lines[from].startsWith("static ") || lines[from].startsWith("/**"))) {
            for (int i = from; i < behind; i++) {
                helpers.append("    ").append(lines[i]).append("\n");
            }
            return;
        }
        examples.append("    private static void example").append(blocks).append("(List<String> answers) {\n");
        blocks++;
        boolean made = false;
        for (int i = from; i < behind; i++) {
            Matcher m = CALL.matcher(lines[i]);
            if (lines[i].equals(NEW) && !made) {
                made = true;
                examples.append("        ").append(NEW).append("\n");
            } else if (made && m.matches()) {
                calls.add(new Call(i + 1, m.group(1), m.group(2)));
                examples.append("        try { answers.add(\"\" + ").append(m.group(1))
                    .append("); } catch (RuntimeException e) { answers.add(\"throws \" + e.getClass().getSimpleName()); }\n");
            } else if (!lines[i].isBlank()) {
                strange.add("line " + (i + 1) + ": " + lines[i]);
            }
        }
        examples.append("    }\n");
    }

    private String source() {
        StringBuilder b = new StringBuilder("import java.util.*;\npublic final class " + RUN + " {\n");
        b.append(helpers).append(examples).append("    public static List<String> answers() {\n")
            .append("        List<String> answers = new ArrayList<>();\n");
        for (int i = 0; i < blocks; i++) {
            b.append("        example").append(i).append("(answers);\n");
        }
        return b.append("        return answers;\n    }\n}\n").toString();
    }

    /** What the class answers to the calls, in their order; none, and why is printed, if they don't compile. */
    @SuppressWarnings("unchecked")
    List<String> answers() throws Exception {
        Path dir = Files.createTempDirectory("readme");
        try {
            Path file = dir.resolve(RUN + ".java");
            Files.writeString(file, source());
            Path classes = Path.of(LeaseLedger.class.getProtectionDomain().getCodeSource().getLocation().toURI());
            if (!compiled(file, classes, dir)) {
                return List.of();
            }
            try (URLClassLoader loader = new URLClassLoader(new URL[] {dir.toUri().toURL()}, Readme.class.getClassLoader())) {
                return (List<String>) loader.loadClass(RUN).getMethod("answers").invoke(null);
            }
        } finally {
            remove(dir);
        }
    }

    private static boolean compiled(Path file, Path classes, Path dir) {
        Optional<ToolProvider> javac = ToolProvider.findFirst("javac");
        if (javac.isEmpty()) {
            System.out.println("no javac here: the examples can't be run");
            return false;
        }
        StringWriter told = new StringWriter();
        PrintWriter to = new PrintWriter(told);
        int code = javac.get().run(to, to, "-encoding", "UTF-8", "-cp", classes.toString(), "-d", dir.toString(), file.toString());
        if (code != 0) {
            System.out.println(told);
        }
        return code == 0;
    }

    private static void remove(Path dir) throws IOException {
        for (File f : dir.toFile().listFiles()) {
            Files.delete(f.toPath());
        }
        Files.delete(dir);
    }

    /** Each call whose answer isn't the one that stands behind it, or what keeps the examples from being run. */
    List<String> wrong() throws Exception {
        List<String> wrong = new ArrayList<>(strange);
        List<String> answers = answers();
        if (answers.size() != calls.size()) {
            wrong.add(answers.size() + " answers to " + calls.size() + " calls");
            return wrong;
        }
        for (int i = 0; i < answers.size(); i++) {
            Call c = calls.get(i);
            if (!answers.get(i).equals(c.due())) {
                wrong.add("line " + c.line() + ": " + c.call() + " answered " + answers.get(i) + ", README.md says " + c.answer());
            }
        }
        return wrong;
    }
}
