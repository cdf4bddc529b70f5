import java.lang.reflect.Method;
import java.lang.reflect.Modifier;
import java.nio.file.Files;
import java.nio.file.Path;
import java.util.List;
import java.util.Set;
import java.util.TreeSet;

/** README.md's examples answer as it says, and show every call; and an example that answers otherwise is found. */
public final class ReadmeTest {
    private static final String NEW = "LeaseLedger x = new LeaseLedger();\n";

    private ReadmeTest() {
    }

    public static void main(String[] args) throws Exception {
        Readme readme = new Readme(Files.readString(Path.of("README.md")));
        for (String line : readme.wrong()) {
            Check.yes("README.md, " + line, false);
        }
        System.out.println(readme.calls.size() + " calls of README.md were compared");
        Check.yes("README.md has calls to compare", readme.calls.size() > 200);
        everyCall(readme);
        everyLine(readme);
        wrongOnesAreFound();
        Check.end();
    }

    private static String calls(Readme readme) {
        StringBuilder all = new StringBuilder();
        for (Readme.Call c : readme.calls) {
            all.append(c.call()).append("\n");
        }
        return all.toString();
    }

    private static void everyCall(Readme readme) {
        String calls = calls(readme);
        Set<String> names = new TreeSet<>();
        for (Method m : LeaseLedger.class.getDeclaredMethods()) {
            if (Modifier.isPublic(m.getModifiers())) {
                names.add(m.getName());
            }
        }
        Check.due("calls of the face", names.size(), 42);
        for (String name : names) {
            Check.yes("README.md has an example of " + name + "()", calls.contains("x." + name + "("));
        }
    }

    private static void everyLine(Readme readme) {
        String calls = calls(readme);
        for (String word : List.of("lease", "pay", "early", "fair", "fee", "tied", "index", "option", "seed")) {
            Check.yes("README.md has an example of the LINE " + word, calls.matches("(?s).*tell\\(x, \"[^\"]*\\b" + word + " .*"));
        }
    }

    private static int wrong(String block) throws Exception {
        return new Readme("words\n\n```java\n" + block + "```\n\nmore words\n").wrong().size();
    }

    private static void wrongOnesAreFound() throws Exception {
        Check.due("as it is", wrong(NEW + "x.go(1); // 1: a PERIOD\nx.go(13);   // NONE\nx.take(0); // Long.MIN_VALUE\n"), 0);
        Check.due("as it throws", wrong(NEW + "x.lease(0, 0); // throws IndexOutOfBoundsException: why\n"), 0);
        Check.due("another answer", wrong(NEW + "x.go(1); // 2\n"), 1);
        Check.due("two other answers", wrong(NEW + "x.go(1); // 2\nx.go(1); // 2\nx.go(0); // -2\n"), 2);
        Check.due("another exception", wrong(NEW + "x.lease(0, 0); // throws NoSuchElementException\n"), 1);
        Check.due("nothing is thrown", wrong(NEW + "x.go(1); // throws IndexOutOfBoundsException\n"), 1);
        Check.due("it throws", wrong(NEW + "x.lease(0, 0); // 0\n"), 1);
        Check.due("no answer", wrong(NEW + "x.go(1);\n"), 1);
        Check.due("words for an answer", wrong(NEW + "x.go(1); // a PERIOD\n"), 1);
        Check.due("something else", wrong(NEW + "int y = 1;\n"), 1);
        Check.due("an example of a fence of another shape", new Readme("``` java\nx.go(1); // 2\n```\n").wrong().size(), 1);
    }
}
