import java.security.MessageDigest;
import java.security.NoSuchAlgorithmException;
import java.util.List;

/**
 * SPONGE of the terms: where what is taken in ends just before, at and behind a multiple of R. MESSAGE and CONTEXT are
 * what calls can make of any size; R is 136 there. With R 168 (SAMPLE) 34 bytes are taken in, always, so no call
 * reaches its edges of taking in; its edges of giving out are in every key, as SAMPLE takes 768 bytes and more. SHA3-b
 * is used by no call: here it shows that the reference's SPONGE is Java's own.
 */
public final class SpongeTest {
    private static final int RATE = 136;
    /** The hash of P stands before MESSAGE; how 0 puts two bytes between. */
    private static final int BEFORE = 64;

    public static void main(String[] args) throws NoSuchAlgorithmException {
        theReferenceIsJavasOwn();
        for (int set = 0; set < 3; set++) {
            messagesAroundMultiples(set);
            contextsAroundMultiples(set);
        }
        Check.finish("SpongeTest");
    }

    private static void theReferenceIsJavasOwn() throws NoSuchAlgorithmException {
        for (int b : new int[] {224, 256, 384, 512}) {
            MessageDigest digest = MessageDigest.getInstance("SHA3-" + b);
            for (int n = 0; n < 300; n++) {
                byte[] x = Check.noise(n, n);
                Check.bytes("SHA3-" + b + " of " + n, Reference.sponge(200 - b / 4, 6, x, b / 8), digest.digest(x));
            }
        }
    }

    /** "x | s, then zeros up to a multiple of R, the last byte of all ^ 128": s and that may be one byte. */
    private static void messagesAroundMultiples(int set) {
        for (int blocks : new int[] {1, 2, 60}) {
            for (int n = blocks * RATE - BEFORE - 2; n <= blocks * RATE - BEFORE + 1; n++) {
                signsAsDue(set, -1, 0, n);
            }
        }
        for (int n = RATE - BEFORE - 4; n <= RATE - BEFORE - 1; n++) {
            signsAsDue(set, 0, 0, n);
        }
        for (int n : new int[] {0, 1, 8191, 8192}) {
            signsAsDue(set, -1, 0, n);
            signsAsDue(set, 0, 255, n);
        }
    }

    private static void contextsAroundMultiples(int set) {
        for (int n = RATE - BEFORE - 4; n <= RATE - BEFORE - 1; n++) {
            signsAsDue(set, 0, n, 0);
            signsAsDue(set, 0, n + RATE, 0);
        }
    }

    private static void signsAsDue(int set, int how, int contextSize, int messageSize) {
        Reference r = new Reference(set);
        byte[] random = Check.noise(32, 3);
        byte[] context = Check.noise(contextSize, 4);
        byte[] message = message(messageSize);
        Player x = new Player();
        x.load(Check.RANDOM, random);
        x.dsaKeys(set);
        x.load(Check.CONTEXT, context);
        x.load(Check.MESSAGE, message);
        Reference.Keys keys = r.keys(random);
        List<Reference.Try> tries = r.sign(keys.secretKey(), Reference.signed(how, context, message), random);
        String what = "set " + set + ", how " + how + ", a context of " + contextSize + ", a message of " + messageSize;
        Check.same(what + ": tries", x.dsaSign(set, how), tries.size());
        Check.isTrue(what + ": verify", x.dsaVerify(set, how));
        Check.bytes(what + ": PACKET", x.read(Check.PACKET), tries.get(tries.size() - 1).signature);
    }

    /** The last byte of a long message is not 0, so that it is seen if it is left out. */
    private static byte[] message(int n) {
        byte[] message = Check.noise(n, 5);
        for (int i = 300; i < n - 1; i++) {
            message[i] = (byte) i;
        }
        if (n > 0) {
            message[n - 1] = 99;
        }
        return message;
    }
}
