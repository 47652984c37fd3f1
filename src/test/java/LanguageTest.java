import java.io.IOException;
import java.lang.reflect.Executable;
import java.lang.reflect.Field;
import java.lang.reflect.Modifier;
import java.nio.file.Files;
import java.nio.file.Path;
import java.util.ArrayList;
import java.util.List;
import java.util.regex.Pattern;

/** Those rules of LANGUAGE.md that can be read off the program's text or its classes. */
public final class LanguageTest {
    private static final Path SOURCE = Path.of("src/main/java/ModuleSigner.java");
    private static final int MOST_CLASSES = 12;
    private static final int MOST_FIELDS = 20;
    private static final int MOST_PARAMETERS = 7;
    private static final int MOST_LINES = 60;

    private static final String[] NEVER = {
        "^package ", "^import ", "->", "::", "\\b(finally|synchronized|assert)\\b", "static \\{", "Exact\\(",
        "\\bSystem\\.(?!arraycopy)", "while \\(true\\)", "for \\(;;\\)"
    };

    public static void main(String[] args) throws IOException {
        List<String> lines = Files.readAllLines(SOURCE);
        for (String never : NEVER) {
            Pattern pattern = Pattern.compile(never);
            for (int i = 0; i < lines.size(); i++) {
                String line = lines.get(i).strip();
                boolean comment = line.startsWith("/") || line.startsWith("*");
                Check.isTrue("line " + (i + 1) + " is without " + never, comment || !pattern.matcher(line).find());
            }
        }
        methodsAreShort(lines);
        List<Class<?>> classes = new ArrayList<>(List.of(ModuleSigner.class.getDeclaredClasses()));
        classes.add(ModuleSigner.class);
        Check.isTrue("there are " + classes.size() + " classes", classes.size() <= MOST_CLASSES);
        for (Class<?> one : classes) {
            fitsTheRules(one);
        }
        Check.finish("LanguageTest");
    }

    private static void fitsTheRules(Class<?> one) {
        int fields = 0;
        for (Field field : one.getDeclaredFields()) {
            boolean isStatic = Modifier.isStatic(field.getModifiers());
            fields += isStatic ? 0 : 1;
            Check.isTrue("a static field is final: " + field.getName(),
                !isStatic || Modifier.isFinal(field.getModifiers()));
        }
        Check.isTrue(one.getSimpleName() + " has " + fields + " fields", fields <= MOST_FIELDS);
        List<Executable> all = new ArrayList<>(List.of(one.getDeclaredMethods()));
        all.addAll(List.of(one.getDeclaredConstructors()));
        for (Executable method : all) {
            Check.isTrue(method + " takes few parameters", method.getParameterCount() <= MOST_PARAMETERS);
            Check.isTrue(method + " is not named as one of the face",
                one == ModuleSigner.class || !isOfTheFace(method.getName()));
        }
    }

    private static boolean isOfTheFace(String name) {
        for (Executable method : ModuleSigner.class.getMethods()) {
            if (method.getDeclaringClass() == ModuleSigner.class && method.getName().equals(name)) {
                return true;
            }
        }
        return false;
    }

    /** A method starts with a line that ends in an opening brace, and ends with a brace as far in as its start. */
    private static void methodsAreShort(List<String> lines) {
        Pattern start = Pattern.compile("^( {4}| {8})\\S.*\\) (throws [\\w, ]+)?\\{$");
        for (int i = 0; i < lines.size(); i++) {
            String line = lines.get(i);
            if (start.matcher(line).matches()) {
                String end = line.substring(0, line.length() - line.stripLeading().length()) + "}";
                int last = i;
                while (last < lines.size() && !lines.get(last).equals(end)) {
                    last++;
                }
                Check.isTrue(line.strip() + " has " + (last - i + 1) + " lines", last - i + 1 <= MOST_LINES);
            }
        }
    }
}
