import java.io.IOException;
import java.lang.reflect.Executable;
import java.lang.reflect.Field;
import java.lang.reflect.Modifier;
import java.nio.file.Files;
import java.nio.file.Path;
import java.util.ArrayList;
import java.util.List;
import java.util.Map;
import java.util.Set;
import java.util.TreeMap;
import java.util.TreeSet;
import java.util.regex.Matcher;
import java.util.regex.Pattern;

/** Those rules of LANGUAGE.md that can be read off the program's text or its classes. */
public final class LanguageTest {
    private static final Path SOURCE = Path.of("src/main/java/ModuleSigner.java");
    private static final int MOST_CLASSES = 12;
    private static final int MOST_FIELDS = 20;
    private static final int MOST_PARAMETERS = 7;
    private static final int MOST_LINES = 60;
    private static final int MOST_DEPTH = 8;

    private static final Pattern[] NEVER = {
        Pattern.compile("^package "), Pattern.compile("^import "), Pattern.compile("->"), Pattern.compile("::"),
        Pattern.compile("\\b(try|finally) \\{|\\b(synchronized|assert)\\b"), Pattern.compile("static \\{"),
        Pattern.compile("while \\(true\\)"), Pattern.compile("for \\(;;\\)"), Pattern.compile("[^\\x00-\\xff]")
    };
    private static final Pattern THROW = Pattern.compile("throw new (IllegalStateException|IllegalArgumentException|"
        + "IndexOutOfBoundsException|ArithmeticException|UnsupportedOperationException)\\(\"[^\"]+\"\\);");
    private static final Pattern NAME = Pattern.compile("\\b([A-Z]\\w*[a-z]\\w*)\\.\\w+");
    /** Of what rule 4 allows the class uses just these. */
    private static final Set<String> LIBRARY = Set.of("Math.min", "System.arraycopy");
    private static final Set<Class<?>> CONSTANTS = Set.of(int.class, long.class, int[].class, long[].class);
    /** The first line of a method; its exceptions may go on in the next. */
    private static final Pattern HEAD =
        Pattern.compile("^( {4}| {8})\\S.*?(\\w+)\\([^;=]*\\) (throws [\\w, ]+,|.*\\{)$");
    private static final Pattern CALL = Pattern.compile("(\\w+)\\(");

    public static void main(String[] args) throws IOException {
        List<String> lines = Files.readAllLines(SOURCE);
        List<Class<?>> classes = new ArrayList<>(List.of(ModuleSigner.class.getDeclaredClasses()));
        classes.add(ModuleSigner.class);
        Check.isTrue("there are " + classes.size() + " classes", classes.size() <= MOST_CLASSES);
        Set<String> own = new TreeSet<>();
        for (Class<?> one : classes) {
            own.add(one.getSimpleName());
            fitsTheRules(one);
        }
        for (int i = 0; i < lines.size(); i++) {
            String line = lines.get(i).strip();
            if (!line.startsWith("/") && !line.startsWith("*")) {
                fitsTheRules("line " + (i + 1), line, own);
            }
        }
        Map<String, Set<String>> calls = calls(lines);
        for (String method : calls.keySet()) {
            goesDown(method, calls, new ArrayList<>());
        }
        Check.isTrue("the methods are found", calls.keySet().containsAll(Set.of("dsaSign", "permute", "ModuleSigner")));
        Check.finish("LanguageTest");
    }

    private static void fitsTheRules(String where, String line, Set<String> own) {
        for (Pattern never : NEVER) {
            Check.isTrue(where + " is without " + never, !never.matcher(line).find());
        }
        Check.isTrue(where + " throws as rule 6 says", !line.contains("throw ") || THROW.matcher(line).matches());
        Matcher name = NAME.matcher(line);
        while (name.find()) {
            Check.isTrue(where + " may use " + name.group(),
                LIBRARY.contains(name.group()) || own.contains(name.group(1)));
        }
    }

    private static void fitsTheRules(Class<?> one) {
        int fields = 0;
        for (Field field : one.getDeclaredFields()) {
            boolean isStatic = Modifier.isStatic(field.getModifiers());
            fields += isStatic ? 0 : 1;
            Check.isTrue("a static field is final, and a constant: " + field.getName(),
                !isStatic || Modifier.isFinal(field.getModifiers()) && CONSTANTS.contains(field.getType()));
        }
        Check.isTrue(one.getSimpleName() + " has " + fields + " fields", fields <= MOST_FIELDS);
        List<Executable> all = new ArrayList<>(List.of(one.getDeclaredMethods()));
        all.addAll(List.of(one.getDeclaredConstructors()));
        for (Executable method : all) {
            Check.isTrue(method + " takes few parameters", method.getParameterCount() <= MOST_PARAMETERS);
            Check.isTrue(method + " is not named as one of the face",
                Modifier.isPublic(method.getModifiers()) || !isOfTheFace(method.getName()));
        }
    }

    private static boolean isOfTheFace(String name) {
        for (Executable method : ModuleSigner.class.getMethods()) {
            if (method.getDeclaringClass() == ModuleSigner.class && method.getName().equals(name)) {
                return true;
            }
        }
        return false;
    }

    /**
     * For each method the names of all that its text calls; looks at its length, too. Methods of the same name are
     * taken as one: so more may be found than there is, but not less.
     */
    private static Map<String, Set<String>> calls(List<String> lines) {
        Map<String, Set<String>> calls = new TreeMap<>();
        for (int i = 0; i < lines.size(); i++) {
            Matcher head = HEAD.matcher(lines.get(i));
            if (head.matches()) {
                int last = i + lines.subList(i, lines.size()).indexOf(head.group(1) + "}");
                String name = head.group(2);
                Check.isTrue(name + " has " + (last - i + 1) + " lines", last - i + 1 <= MOST_LINES);
                Matcher call = CALL.matcher(String.join(" ", lines.subList(i + 1, last)));
                Set<String> called = calls.computeIfAbsent(name, unused -> new TreeSet<>());
                while (call.find()) {
                    called.add(call.group(1));
                }
            }
        }
        return calls;
    }

    /** Rule 11: without recursion, of which there is none, at most eight calls stand open at once. */
    private static void goesDown(String method, Map<String, Set<String>> calls, List<String> open) {
        boolean again = open.contains(method);
        open.add(method);
        Check.isTrue("no recursion: " + open, !again);
        Check.isTrue("not too deep: " + open, open.size() <= MOST_DEPTH);
        if (!again) {
            for (String called : calls.get(method)) {
                if (calls.containsKey(called)) {
                    goesDown(called, calls, open);
                }
            }
        }
        open.remove(open.size() - 1);
    }
}
