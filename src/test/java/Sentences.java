import java.io.IOException;
import java.nio.file.Files;
import java.nio.file.Path;
import java.util.LinkedHashMap;
import java.util.Map;

/** Which sentence of the document a test holds the class to; in the end, that no word of it was left out. */
final class Sentences {
    private static final Path DOC = Path.of("../shared/DOC.md");
    private static final Map<String, String> SECTIONS = new LinkedHashMap<>();
    private static final Map<String, boolean[]> SAID = new LinkedHashMap<>();
    private static String section = "";
    private static String now = "";

    private Sentences() {
    }

    /** Reads the document; without it the tests run all the same, only their sentences aren't looked up. */
    static void open() throws IOException {
        if (!Files.exists(DOC)) {
            System.out.println("no " + DOC + ": the sentences are not looked up");
            return;
        }
        for (String part : Files.readString(DOC).split("(?m)^## ")) {
            String title = part.substring(0, part.indexOf('\n')).trim();
            String body = part.substring(part.indexOf('\n'));
            if (title.equals("What it is")) {
                keep(title, body.substring(body.indexOf("An object")));
            } else if (title.equals("Terms")) {
                keep(title, body);
            } else if (title.startsWith("Promise ")) {
                keep(title.substring(0, title.indexOf(':')), body.substring(body.indexOf("`: ") + 2));
            }
        }
        Check.due("sections of the document", SECTIONS.size(), 45);
    }

    private static void keep(String title, String body) {
        String text = plain(body);
        SECTIONS.put(title, text);
        SAID.put(title, new boolean[text.length()]);
    }

    private static String plain(String text) {
        return text.replaceAll("```[a-z]*", " ").replaceAll("==== \\d\\.", " ").replaceAll("\\s+", " ").trim();
    }

    static void in(String title) {
        section = title;
    }

    /** The tests that follow hold the class to these words of the section. */
    static void says(String words) {
        now = section + " \"" + words + "\"";
        String text = SECTIONS.get(section);
        if (text == null) {
            Check.yes("there is a section " + section, SECTIONS.isEmpty());
            return;
        }
        String sought = plain(words);
        int at = text.indexOf(sought);
        Check.yes("the document says: " + now, at >= 0 && !sought.isEmpty());
        boolean[] said = SAID.get(section);
        while (at >= 0 && !sought.isEmpty()) {
            for (int i = at; i < at + sought.length(); i++) {
                said[i] = true;
            }
            at = text.indexOf(sought, at + 1);
        }
    }

    static void is(String call, long got, long want) {
        Check.due(now + ": " + call, got, want);
    }

    static void holds(String what, boolean is) {
        Check.yes(now + ": " + what, is);
    }

    static String now() {
        return now;
    }

    /** Each word of the document's terms and promises stands in a sentence that a test names. */
    static void allSaid() {
        for (String title : SECTIONS.keySet()) {
            String text = SECTIONS.get(title);
            boolean[] said = SAID.get(title);
            StringBuilder left = new StringBuilder();
            for (int i = 0; i < text.length(); i++) {
                if (!said[i] && Character.isLetterOrDigit(text.charAt(i))) {
                    left.append(text.charAt(i));
                } else if (left.length() > 0 && left.charAt(left.length() - 1) != ' ') {
                    left.append(' ');
                }
            }
            Check.due(title + ", words that no test names: " + left, left.length(), 0);
        }
    }
}
