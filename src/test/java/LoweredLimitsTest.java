import java.io.IOException;
import java.lang.reflect.Method;
import java.net.URL;
import java.net.URLClassLoader;
import java.nio.file.Files;
import java.nio.file.Path;
import java.util.Arrays;
import java.util.Comparator;
import java.util.List;
import java.util.stream.Stream;
import javax.tools.ToolProvider;

/**
 * The ArithmeticExceptions of SAMPLE ("at most 298 times"), SMALL ("at most 481") and BALL ("at most 121"), which no
 * known run of calls reaches, and that of SIGN ("After 814 of them") in all sets. The class is compiled anew with a
 * lower limit in its text: first with just as many as a run takes, then with one less. So the text is also asked
 * whether its limits are the document's.
 */
public final class LoweredLimitsTest {
    private static final Path SOURCE = Path.of("src/main/java/ModuleSigner.java");
    private static final String TRIPLES = "MOST_TRIPLES";
    private static final String SMALL_BYTES = "MOST_SMALL_BYTES";
    private static final String BALL_BYTES = "MOST_BALL_BYTES";
    private static final String TRIES = "MOST_TRIES";
    private static final String THROWS = "ArithmeticException";
    private static final byte[] RANDOM = Check.noise(32, 21);

    private final int set;
    private final Reference.Keys keys;
    /** A message for which BALL takes more bytes at some try than at the last, and the tries of it. */
    private final byte[] message;
    private final List<Reference.Try> tries;
    private final int triples;
    private final int smallBytes;
    private final int ballBytes;

    public static void main(String[] args) throws Exception {
        for (int set = 0; set < 3; set++) {
            new LoweredLimitsTest(set).run();
        }
        Check.finish("LoweredLimitsTest");
    }

    private LoweredLimitsTest(int set) {
        Reference r = new Reference(set);
        this.set = set;
        keys = r.keys(RANDOM);
        int number = 0;
        List<Reference.Try> found = r.sign(keys.secretKey(), Check.first(4, number), new byte[32]);
        while (mostBallBytes(found) == last(found).ballBytes) {
            number++;
            found = r.sign(keys.secretKey(), Check.first(4, number), new byte[32]);
        }
        message = Check.first(4, number);
        tries = found;
        triples = mostTriples(r);
        smallBytes = mostSmallBytes(r);
        ballBytes = mostBallBytes(found);
    }

    private static Reference.Try last(List<Reference.Try> tries) {
        return tries.get(tries.size() - 1);
    }

    private static int mostBallBytes(List<Reference.Try> tries) {
        int most = 0;
        for (Reference.Try one : tries) {
            most = Math.max(most, one.ballBytes);
        }
        return most;
    }

    private int mostTriples(Reference r) {
        int most = 0;
        for (int i = 0; i < r.k; i++) {
            for (int j = 0; j < r.l; j++) {
                byte[] stream = Reference.sampleStream(keys.publicKey(), i, j);
                most = Math.max(most, Reference.sample(stream, new int[256]));
            }
        }
        return most;
    }

    private int mostSmallBytes(Reference r) {
        byte[] s = Reference.part(r.seeds(RANDOM), 32, 64);
        int most = 0;
        for (int i = 0; i < r.l + r.k; i++) {
            most = Math.max(most, r.small(Reference.smallStream(s, i), new int[256]));
        }
        return most;
    }

    /** Due are the answers of dsaKeys, dsaSign and dsaVerify. */
    private void run() throws Exception {
        String made = String.valueOf(Check.SECRET_SIZES[set]);
        String tried = String.valueOf(tries.size());
        answersWith(TRIPLES, triples, made, tried, "true");
        answersWith(TRIPLES, triples - 1, THROWS, THROWS, THROWS);
        answersWith(SMALL_BYTES, smallBytes, made, tried, "true");
        answersWith(SMALL_BYTES, smallBytes - 1, THROWS, tried, "true");
        answersWith(BALL_BYTES, ballBytes, made, tried, "true");
        answersWith(BALL_BYTES, ballBytes - 1, made, THROWS, "true");
        answersWith(BALL_BYTES, last(tries).ballBytes, made, THROWS, "true");
        answersWith(BALL_BYTES, last(tries).ballBytes - 1, made, THROWS, THROWS);
        answersWith(TRIES, tries.size(), made, tried, "true");
        answersWith(TRIES, tries.size() - 1, made, THROWS, "true");
    }

    private void answersWith(String limit, int lowered, String... due) throws Exception {
        Path folder = Files.createTempDirectory("lowered");
        try {
            compile(folder, lower(limit, lowered));
            Check.same("set " + set + ", " + limit + " " + lowered + ": keys, sign, verify",
                Arrays.asList(answers(folder)), Arrays.asList(due));
        } finally {
            remove(folder);
        }
    }

    /** The text of the class with that limit. */
    private static String lower(String limit, int lowered) throws IOException {
        String text = Files.readString(SOURCE);
        String line = "int " + limit + " = " + limitOfTheDocument(limit) + ";";
        Check.same("how often the text has " + line, text.split(line, -1).length - 1, 1);
        return text.replace(line, "int " + limit + " = " + lowered + ";");
    }

    private static int limitOfTheDocument(String limit) {
        return switch (limit) {
            case TRIPLES -> 298;
            case SMALL_BYTES -> 481;
            case BALL_BYTES -> 121;
            default -> 814;
        };
    }

    private static void compile(Path folder, String text) throws IOException {
        Path file = folder.resolve("ModuleSigner.java");
        Files.writeString(file, text);
        int code = ToolProvider.getSystemJavaCompiler()
            .run(null, null, null, "-d", folder.toString(), file.toString());
        Check.same("javac of the lowered class", code, 0);
    }

    private static void remove(Path folder) throws IOException {
        try (Stream<Path> files = Files.walk(folder)) {
            for (Path file : files.sorted(Comparator.reverseOrder()).toList()) {
                Files.delete(file);
            }
        }
    }

    /** Loads the tests once more, beside the lowered class, for a class sees those of its own loader alone. */
    private String[] answers(Path folder) throws Exception {
        URL lowered = folder.toUri().toURL();
        URL tests = LoweredLimitsTest.class.getProtectionDomain().getCodeSource().getLocation();
        ClassLoader parent = ClassLoader.getPlatformClassLoader();
        try (URLClassLoader loader = new URLClassLoader(new URL[] {lowered, tests}, parent)) {
            Method calls = loader.loadClass("LoweredLimitsTest")
                .getMethod("calls", int.class, byte[].class, byte[].class, byte[].class, byte[].class);
            return (String[]) calls.invoke(null, set, keys.publicKey(), keys.secretKey(), message,
                last(tries).signature);
        }
    }

    /** What dsaKeys, dsaSign and dsaVerify answer, each on an object of its own. */
    public static String[] calls(int set, byte[] publicKey, byte[] secretKey, byte[] message, byte[] packet) {
        Player maker = filled();
        maker.load(Check.RANDOM, RANDOM);
        Player signer = filled();
        signer.load(Check.SECRET, secretKey);
        signer.load(Check.MESSAGE, message);
        Player verifier = filled();
        verifier.load(Check.PUBLIC, publicKey);
        verifier.load(Check.MESSAGE, message);
        verifier.load(Check.PACKET, packet);
        return new String[] {
            answer(maker, () -> maker.dsaKeys(set)), answer(signer, () -> signer.dsaSign(set, -1)),
            answer(verifier, () -> verifier.dsaVerify(set, -1))
        };
    }

    /** Something in all slots but RANDOM. */
    private static Player filled() {
        Player x = new Player();
        for (int slot = 1; slot < Check.SLOTS; slot++) {
            x.load(slot, Check.noise(slot, slot));
        }
        return x;
    }

    /** "A call that throws changes nothing." */
    private static String answer(Player x, Check.Call call) {
        byte[][] before = x.state();
        String answer = Check.answer(call);
        boolean changed = !Arrays.deepEquals(before, x.state());
        return answer.equals(THROWS) && changed ? "a change, and then " + THROWS : answer;
    }
}
