import java.security.MessageDigest;
import java.security.NoSuchAlgorithmException;
import java.util.Random;

/**
 * What all tests share: counting wrong answers, and moving whole rows of bytes in and out of slots. To read all slots
 * takes more than the 512 calls for which the document promises anything: that it works is this program's own promise.
 */
final class Check {
    static final int RANDOM = 0;
    static final int PUBLIC = 1;
    static final int SECRET = 2;
    static final int MESSAGE = 3;
    static final int CONTEXT = 4;
    static final int PACKET = 5;
    static final int SHARED = 6;
    static final int SPARE = 7;
    static final int SLOTS = 8;

    static final int[] PUBLIC_SIZES = {1312, 1952, 2592};
    static final int[] SECRET_SIZES = {2560, 4032, 4896};
    static final int[] PACKET_SIZES = {2420, 3309, 4627};
    static final int[] CHALLENGE_SIZES = {32, 48, 64};

    private static int wrong = 0;

    private Check() {
    }

    /** One call of the face, its answer as a text. */
    interface Call {
        Object run();
    }

    static void same(String what, Object got, Object due) {
        if (!due.equals(got)) {
            wrong++;
            System.out.println(what + ": answered " + got + ", due is " + due);
        }
    }

    static void isTrue(String what, boolean got) {
        same(what, got, true);
    }

    /** The answer of a call, or the simple name of what it throws. */
    static String answer(Call call) {
        try {
            return String.valueOf(call.run());
        } catch (RuntimeException e) {
            return e.getClass().getSimpleName();
        }
    }

    /** The call throws just that, and every slot is as it was. */
    static void refuses(ModuleSigner x, String what, Call call, Class<? extends RuntimeException> due) {
        String before = state(x);
        same(what, answer(call), due.getSimpleName());
        isTrue(what + " changes nothing", before.equals(state(x)));
    }

    /** Any number of bytes up to 8192; the tape's own are dropped, and it takes 8180 at most. */
    static void load(ModuleSigner x, int slot, byte[] bytes) {
        x.end(slot, 0);
        for (int i = 0; i < bytes.length && i < 8180; i += 20) {
            x.feed(intAt(bytes, i), intAt(bytes, i + 4), intAt(bytes, i + 8), intAt(bytes, i + 12),
                intAt(bytes, i + 16));
        }
        x.end(slot, Math.min(bytes.length, 8180));
        x.resize(slot, bytes.length);
        for (int i = 8180; i < bytes.length; i++) {
            x.alter(slot, i, bytes[i] & 255);
        }
    }

    private static int intAt(byte[] bytes, int i) {
        int value = 0;
        for (int j = i; j < i + 4; j++) {
            value = value << 8 | (j < bytes.length ? bytes[j] & 255 : 0);
        }
        return value;
    }

    static byte[] read(ModuleSigner x, int slot) {
        byte[] bytes = new byte[x.length(slot)];
        for (int i = 0; i < bytes.length; i += 8) {
            long word = x.word(slot, i);
            for (int j = 0; j < 8 && i + j < bytes.length; j++) {
                bytes[i + j] = (byte) (word >>> 56 - 8 * j);
            }
        }
        return bytes;
    }

    static String state(ModuleSigner x) {
        StringBuilder all = new StringBuilder();
        for (int slot = 0; slot < SLOTS; slot++) {
            all.append(hex(read(x, slot))).append('/');
        }
        return all.toString();
    }

    static String hex(byte[] bytes) {
        StringBuilder text = new StringBuilder();
        for (byte b : bytes) {
            text.append(Character.forDigit(b >> 4 & 15, 16)).append(Character.forDigit(b & 15, 16));
        }
        return text.toString();
    }

    /** The first 16 hexadecimal digits of SHA-256 of a slot: enough to know it again. */
    static String mark(ModuleSigner x, int slot) {
        try {
            return hex(MessageDigest.getInstance("SHA-256").digest(read(x, slot))).substring(0, 16);
        } catch (NoSuchAlgorithmException e) {
            throw new IllegalStateException(e);
        }
    }

    /** Bytes start, start + step, start + 2 step, ... */
    static byte[] ramp(int n, int start, int step) {
        byte[] bytes = new byte[n];
        for (int i = 0; i < n; i++) {
            bytes[i] = (byte) (start + i * step);
        }
        return bytes;
    }

    static byte[] noise(int n, long seed) {
        byte[] bytes = new byte[n];
        new Random(seed).nextBytes(bytes);
        return bytes;
    }

    static void finish(String test) {
        System.out.println(test + ": " + (wrong == 0 ? "all answers are as due" : wrong + " answers are not as due"));
        if (wrong != 0) {
            System.exit(1);
        }
    }
}
