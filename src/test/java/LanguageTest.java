import java.io.File;
import java.io.PrintWriter;
import java.io.StringWriter;
import java.lang.reflect.Constructor;
import java.lang.reflect.Field;
import java.lang.reflect.Method;
import java.lang.reflect.Modifier;
import java.nio.charset.StandardCharsets;
import java.nio.file.Files;
import java.nio.file.Path;
import java.util.ArrayList;
import java.util.Arrays;
import java.util.List;
import java.util.Map;
import java.util.Optional;
import java.util.Set;
import java.util.TreeMap;
import java.util.TreeSet;
import java.util.regex.Matcher;
import java.util.regex.Pattern;
import java.util.spi.ToolProvider;

/** The rules of LANGUAGE.md that can be seen in the source and in the compiled classes. */
public final class LanguageTest {
    private static final String FACE = "feed(IIIII)I text(I)I fault(I)I named(I)I go(I)I lease(II)I amount(II)J due(II)J"
        + " worth(III)J index(I)I account(I)J entry(II)J rate(II)J extend(II)J take(I)J part(II)J end(I)J down(IJ)J"
        + " putOff(III)J become(I)I plan(III)J all(I)J soon(II)J sum(II)J moved(II)J choose(I)I life(IZ)J peak(I)J"
        + " partFor(IJ)I latest(II)I half(I)I cash(II)J ifIndex(II)J ifTaken(I)J yields(IIJ)I level(IJ)I heaviest()I"
        + " chance(III)J undo()I keep()I back()I count(I)I";

    private LanguageTest() {
    }

    public static void main(String[] args) throws Exception {
        String source = Files.readString(Path.of("src/main/java/LeaseLedger.java"), StandardCharsets.UTF_8);
        face();
        classes();
        words(source);
        imports(source);
        methods(source);
        depth();
        Check.end();
    }

    private static String sign(Class<?> c) {
        return c == int.class ? "I" : c == long.class ? "J" : c == boolean.class ? "Z" : c.getName();
    }

    private static void face() {
        Class<LeaseLedger> c = LeaseLedger.class;
        Check.yes("1 public and final", Modifier.isPublic(c.getModifiers()) && Modifier.isFinal(c.getModifiers()));
        Set<String> has = new TreeSet<>();
        Set<String> names = new TreeSet<>();
        for (Method m : c.getDeclaredMethods()) {
            if (Modifier.isPublic(m.getModifiers())) {
                StringBuilder b = new StringBuilder(m.getName()).append("(");
                for (Class<?> p : m.getParameterTypes()) {
                    b.append(sign(p));
                }
                has.add(b.append(")").append(sign(m.getReturnType())).toString());
                names.add(m.getName());
            }
        }
        Set<String> due = new TreeSet<>(Arrays.asList(FACE.split(" ")));
        Check.yes("1 the face is " + due + ", it has " + has, due.equals(has));
        for (Method m : c.getDeclaredMethods()) {
            int mod = m.getModifiers();
            Check.yes("1 " + m, Modifier.isPublic(mod) || Modifier.isPrivate(mod) && !names.contains(m.getName()));
        }
        for (Constructor<?> k : c.getDeclaredConstructors()) {
            Check.yes("1 " + k, Modifier.isPublic(k.getModifiers()) && k.getParameterCount() == 0);
        }
        for (Field f : c.getDeclaredFields()) {
            Check.yes("1 " + f, f.getName().equals("NONE") || Modifier.isPrivate(f.getModifiers()));
        }
        for (Class<?> n : c.getDeclaredClasses()) {
            Check.yes("1 " + n, Modifier.isStatic(n.getModifiers()) && !Modifier.isPublic(n.getModifiers())
                && !Modifier.isProtected(n.getModifiers()));
            for (Method m : n.getDeclaredMethods()) {
                Check.yes("1 " + m + " has a name of the face", !names.contains(m.getName()));
            }
        }
    }

    private static void classes() {
        List<Class<?>> all = new ArrayList<>(List.of(LeaseLedger.class.getDeclaredClasses()));
        all.add(LeaseLedger.class);
        Check.yes("11 at most twelve classes", all.size() <= 12);
        for (Class<?> c : all) {
            int fields = 0;
            for (Field f : c.getDeclaredFields()) {
                boolean fixed = Modifier.isStatic(f.getModifiers());
                fields += fixed ? 0 : 1;
                Check.yes("5 " + f, !fixed || Modifier.isFinal(f.getModifiers()));
            }
            Check.yes("11 fields of " + c, fields <= 20);
            for (Method m : c.getDeclaredMethods()) {
                Check.yes("11 parameters of " + m, m.getParameterCount() <= 7);
            }
        }
    }

    private static void words(String source) {
        String code = source.replaceAll("(?s)/\\*.*?\\*/", " ").replaceAll("//[^\n]*", " ");
        String[] none = {"->", "::", "synchronized", "\\bassert\\b", "\\bfinally\\b", "\\btry\\b", "\\bcatch\\b",
            "Exact\\(", "\\bpackage\\b", "static\\s*\\{", "hashCode", "\\.ordinal\\(", "\\.name\\(", "System\\.(?!arraycopy)",
            "\\bdouble\\b", "\\bfloat\\b", "\\bThread\\b", "\\bRandom\\b", "String\\.format", "\"\\s*\\+", "\\+\\s*\"",
            "while \\(true\\)", "for \\(;;", "\\bvar\\b", "@Override"};
        for (String n : none) {
            Matcher m = Pattern.compile(n).matcher(code);
            Check.yes("a word that is not of the language: " + n, !m.find());
        }
        Matcher thrown = Pattern.compile("throw new (\\w+)\\(").matcher(code);
        while (thrown.find()) {
            Check.yes("6 " + thrown.group(1), Set.of("IndexOutOfBoundsException", "NoSuchElementException").contains(thrown.group(1)));
        }
        Matcher called = Pattern.compile("\\b(Arrays|Math|Integer|Long|System)\\.(\\w+)").matcher(code);
        while (called.find()) {
            String call = called.group(1) + "." + called.group(2);
            Check.yes("4 " + call, Set.of("Arrays.fill", "Math.max", "Math.min", "System.arraycopy").contains(call));
        }
        for (int i = 0; i < source.length(); i++) {
            Check.yes("4 a sign above 127", source.charAt(i) < 128);
        }
    }

    private static void imports(String source) {
        Matcher m = Pattern.compile("import ([\\w.*]+);").matcher(source);
        while (m.find()) {
            Check.yes("4 import " + m.group(1), Set.of("java.util.Arrays", "java.util.NoSuchElementException").contains(m.group(1)));
        }
    }

    /** Calls go at most eight deep from a call of the face on, as the compiled classes tell. */
    private static void depth() throws Exception {
        Optional<ToolProvider> javap = ToolProvider.findFirst("javap");
        if (javap.isEmpty()) {
            System.out.println("no javap here: the depth of calls is not looked at");
            return;
        }
        File[] files = new File(LeaseLedger.class.getProtectionDomain().getCodeSource().getLocation().toURI())
            .listFiles((dir, name) -> name.matches("LeaseLedger(\\$.*)?\\.class"));
        List<String> args = new ArrayList<>(List.of("-c", "-p"));
        for (File f : files) {
            args.add(f.getPath());
        }
        StringWriter out = new StringWriter();
        PrintWriter to = new PrintWriter(out);
        Check.due("javap", javap.get().run(to, to, args.toArray(new String[0])), 0);
        Map<String, Set<String>> calls = calls(out.toString());
        Check.yes("calls were found", calls.size() > 100);
        for (String m : calls.keySet()) {
            if (m.startsWith("LeaseLedger.")) {
                int deep = deep(calls, m, 0);
                Check.yes("11 " + m + " goes " + deep + " deep", deep <= 8);
            }
        }
    }

    /** By each method (of one name, together) which others of the file it calls. */
    private static Map<String, Set<String>> calls(String told) {
        Pattern type = Pattern.compile("^.*\\b(?:class|interface) (LeaseLedger[\\w$]*).*\\{$");
        Pattern method = Pattern.compile("^  \\S.*?([\\w$]+)\\(.*;$");
        Pattern call = Pattern.compile("// (?:Interface)?Method (?:(LeaseLedger[\\w$]*)\\.)?\"?([\\w<>]+)\"?:");
        Map<String, Set<String>> calls = new TreeMap<>();
        String inside = "";
        String at = "";
        for (String line : told.split("\n")) {
            Matcher t = type.matcher(line);
            Matcher m = method.matcher(line);
            Matcher c = call.matcher(line);
            if (t.find()) {
                inside = t.group(1);
            } else if (m.find()) {
                at = inside + "." + (m.group(1).startsWith("LeaseLedger") ? "<init>" : m.group(1));
                calls.putIfAbsent(at, new TreeSet<>());
            } else if (c.find() && calls.containsKey(at)) {
                calls.get(at).add((c.group(1) == null ? inside : c.group(1)) + "." + c.group(2));
            }
        }
        return calls;
    }

    private static int deep(Map<String, Set<String>> calls, String method, int open) {
        int most = 0;
        for (String next : calls.getOrDefault(method, Set.of())) {
            if (calls.containsKey(next) && open < 20) {
                most = Math.max(most, deep(calls, next, open + 1));
            }
        }
        return most + 1;
    }

    /** Methods stay short: from a line that opens one to the line that closes it at the same depth. */
    private static void methods(String source) {
        String[] lines = source.split("\n");
        Pattern opens = Pattern.compile("^( {4}| {8})(?!.*\\b(class|enum|for|if|while|switch)\\b)\\S.*\\) .*\\{$|^( {4}| {8})\\S.*\\) \\{$");
        for (int i = 0; i < lines.length; i++) {
            if (!opens.matcher(lines[i]).find()) {
                continue;
            }
            String close = lines[i].substring(0, lines[i].length() - lines[i].stripLeading().length()) + "}";
            int end = i;
            while (end < lines.length && !lines[end].equals(close)) {
                end++;
            }
            Check.yes("11 " + lines[i].trim() + " has " + (end - i) + " lines", end - i <= 60);
        }
    }
}
