import java.security.MessageDigest;
import java.security.NoSuchAlgorithmException;
import java.util.Arrays;
import java.util.Random;

/** What all tests share: names, counting wrong answers, and rows of bytes. */
final class Check {
    static final int RANDOM = 0;
    static final int PUBLIC = 1;
    static final int SECRET = 2;
    static final int MESSAGE = 3;
    static final int CONTEXT = 4;
    static final int PACKET = 5;
    static final int SHARED = 6;
    static final int SPARE = 7;
    static final int SLOTS = 8;

    static final int LEAST = Integer.MIN_VALUE;
    static final int GREATEST = Integer.MAX_VALUE;

    static final int[] PUBLIC_SIZES = {1312, 1952, 2592};
    static final int[] SECRET_SIZES = {2560, 4032, 4896};
    static final int[] PACKET_SIZES = {2420, 3309, 4627};
    static final int[] CHALLENGE_SIZES = {32, 48, 64};

    private static int wrong = 0;

    private Check() {
    }

    /** One call of the face. */
    interface Call {
        Object run();
    }

    static void same(String what, Object got, Object due) {
        if (!due.equals(got)) {
            wrong++;
            System.out.println(what + ": answered " + got + ", due is " + due);
        }
    }

    static void isTrue(String what, boolean got) {
        same(what, got, true);
    }

    static void bytes(String what, byte[] got, byte[] due) {
        if (!Arrays.equals(got, due)) {
            wrong++;
            System.out.println(what + ": " + got.length + " bytes " + head(got) + ", due are " + due.length + " bytes "
                + head(due) + ", and they part at " + Arrays.mismatch(got, due));
        }
    }

    private static String head(byte[] bytes) {
        return bytes.length <= 32 ? hex(bytes) : hex(Arrays.copyOf(bytes, 32)) + "..";
    }

    /** The answer of a call, or the simple name of what it throws. */
    static String answer(Call call) {
        try {
            return String.valueOf(call.run());
        } catch (RuntimeException e) {
            return e.getClass().getSimpleName();
        }
    }

    /** "A call that throws changes nothing": it throws just that, and every slot and the tape are as they were. */
    static void refuses(Player x, String what, Call call, Class<? extends RuntimeException> due) {
        byte[][] before = x.state();
        same(what, answer(call), due.getSimpleName());
        isTrue(what + ": nothing changes", Arrays.deepEquals(before, x.state()));
    }

    static String hex(byte[] bytes) {
        StringBuilder text = new StringBuilder();
        for (byte b : bytes) {
            text.append(Character.forDigit(b >> 4 & 15, 16)).append(Character.forDigit(b & 15, 16));
        }
        return text.toString();
    }

    /** The first 16 hexadecimal digits of SHA-256: enough to know a row of bytes again. */
    static String mark(byte[] bytes) {
        try {
            return hex(MessageDigest.getInstance("SHA-256").digest(bytes)).substring(0, 16);
        } catch (NoSuchAlgorithmException e) {
            throw new IllegalStateException(e);
        }
    }

    /** Bytes start, start + step, start + 2 step, ... */
    static byte[] ramp(int n, int start, int step) {
        byte[] bytes = new byte[n];
        for (int i = 0; i < n; i++) {
            bytes[i] = (byte) (start + i * step);
        }
        return bytes;
    }

    static byte[] noise(int n, long seed) {
        byte[] bytes = new byte[n];
        new Random(seed).nextBytes(bytes);
        return bytes;
    }

    /** A number as the first four bytes of n, the highest first. */
    static byte[] first(int n, int number) {
        byte[] bytes = new byte[n];
        for (int i = 0; i < 4; i++) {
            bytes[i] = (byte) (number >> 24 - 8 * i);
        }
        return bytes;
    }

    /** A number as the last four bytes of n, the highest first. */
    static byte[] last(int n, int number) {
        byte[] bytes = new byte[n];
        System.arraycopy(first(4, number), 0, bytes, n - 4, 4);
        return bytes;
    }

    static void finish(String test) {
        System.out.println(test + ": " + (wrong == 0 ? "all answers are as due" : wrong + " answers are not as due"));
        if (wrong != 0) {
            System.exit(1);
        }
    }
}
