import java.io.IOException;
import java.lang.reflect.InvocationTargetException;
import java.lang.reflect.Method;
import java.nio.file.Files;
import java.nio.file.Path;
import java.util.ArrayList;
import java.util.List;
import java.util.Set;
import java.util.TreeSet;
import java.util.regex.Matcher;
import java.util.regex.Pattern;
import java.util.stream.Stream;

/** What README.md says is so: its examples, its sizes, its table of the calls, and its table of the tests. */
public final class ReadmeTest {
    private static final String MAKES = "ModuleSigner x = new ModuleSigner();";
    /** A call, which may give its answer a name, and what is said of it. */
    private static final Pattern CALL = Pattern.compile(
        "(?:(int|long|boolean) \\w+ = )?x\\.(\\w+)\\(([\\w, -]*)\\); +// (answers|throws) ([\\w-]+)(: .+)?");
    private static final Pattern SIZES =
        Pattern.compile("\\| (\\d) \\| ML-DSA-\\d\\d \\| (\\d+) \\| (\\d+) \\| (\\d+) \\| (\\d+) \\|");
    private static final Pattern ROW_OF_A_CALL = Pattern.compile("\\| `(\\w+)\\(([\\w, ]*)\\)` \\| .+ \\| .+ \\|");
    private static final Pattern TEST = Pattern.compile("`(\\w+Test)`");

    public static void main(String[] args) throws Exception {
        List<String> lines = Files.readAllLines(Path.of("README.md"));
        Check.same("calls in the examples", playExamples(lines), methods());
        Check.same("calls in the table", callsInTheTable(lines), methods());
        Check.same("sets in the table", setsInTheTable(lines), 3);
        Check.same("tests in the table", testsInTheText(lines), testsThatAre());
        Check.finish("ReadmeTest");
    }

    /** The names of the face. */
    private static Set<String> methods() {
        Set<String> names = new TreeSet<>();
        for (Method method : ModuleSigner.class.getMethods()) {
            if (method.getDeclaringClass() == ModuleSigner.class) {
                names.add(method.getName());
            }
        }
        return names;
    }

    private static Method method(String name) {
        for (Method method : ModuleSigner.class.getMethods()) {
            if (method.getDeclaringClass() == ModuleSigner.class && method.getName().equals(name)) {
                return method;
            }
        }
        throw new AssertionError("README.md has a call that is not of the face: " + name);
    }

    /** Makes each call of the Java in the text; answers which methods were called. */
    private static Set<String> playExamples(List<String> lines) throws IllegalAccessException {
        Set<String> called = new TreeSet<>();
        ModuleSigner x = null;
        boolean java = false;
        for (int i = 0; i < lines.size(); i++) {
            String line = lines.get(i);
            if (line.startsWith("```")) {
                java = line.equals("```java");
                x = null;
            } else if (java && line.equals(MAKES)) {
                x = new ModuleSigner();
            } else if (java) {
                Matcher call = CALL.matcher(line);
                if (x == null || !call.matches()) {
                    Check.same("README.md, line " + (i + 1), line, "a call that can be made");
                } else {
                    play("README.md, line " + (i + 1), x, call);
                    called.add(call.group(2));
                }
            }
        }
        return called;
    }

    private static void play(String where, ModuleSigner x, Matcher call) throws IllegalAccessException {
        Method method = method(call.group(2));
        if (call.group(1) != null) {
            Check.same(where + ": type", call.group(1), method.getReturnType().getName());
        }
        List<Object> numbers = new ArrayList<>();
        for (String number : call.group(3).split(", ")) {
            numbers.add(Integer.decode(number));
        }
        String due = call.group(5);
        Check.same(where, said(method, x, numbers.toArray()),
            call.group(4) + " " + (due.startsWith("0x") ? String.valueOf(Long.decode(due)) : due));
    }

    private static String said(Method method, ModuleSigner x, Object[] numbers) throws IllegalAccessException {
        try {
            return "answers " + method.invoke(x, numbers);
        } catch (InvocationTargetException thrown) {
            return "throws " + thrown.getCause().getClass().getSimpleName();
        }
    }

    private static Set<String> callsInTheTable(List<String> lines) {
        Set<String> calls = new TreeSet<>();
        for (String line : lines) {
            Matcher row = ROW_OF_A_CALL.matcher(line);
            if (row.matches()) {
                calls.add(row.group(1));
                Check.same("numbers of " + row.group(1), row.group(2).split(", ").length,
                    method(row.group(1)).getParameterCount());
            }
        }
        return calls;
    }

    private static int setsInTheTable(List<String> lines) {
        int sets = 0;
        for (String line : lines) {
            Matcher row = SIZES.matcher(line);
            if (row.matches()) {
                int set = Integer.parseInt(row.group(1));
                int[] slots = {Check.PUBLIC, Check.SECRET, Check.PACKET, Check.SHARED};
                ModuleSigner x = new ModuleSigner();
                x.resize(Check.RANDOM, 32);
                x.dsaKeys(set);
                x.dsaSign(set, 0);
                x.dsaVerify(set, 0);
                for (int i = 0; i < slots.length; i++) {
                    Check.same("set " + set + ": bytes of slot " + slots[i], String.valueOf(x.length(slots[i])),
                        row.group(i + 2));
                }
                sets++;
            }
        }
        return sets;
    }

    private static Set<String> testsInTheText(List<String> lines) {
        Set<String> tests = new TreeSet<>();
        Matcher test = TEST.matcher(String.join("\n", lines));
        while (test.find()) {
            tests.add(test.group(1));
        }
        return tests;
    }

    private static Set<String> testsThatAre() throws IOException {
        Set<String> tests = new TreeSet<>();
        try (Stream<Path> files = Files.list(Path.of("src/test/java"))) {
            for (Path file : files.toList()) {
                String name = file.getFileName().toString();
                if (name.endsWith("Test.java")) {
                    tests.add(name.substring(0, name.length() - ".java".length()));
                }
            }
        }
        return tests;
    }
}
