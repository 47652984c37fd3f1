import java.util.List;

/**
 * "An object is used for at most 512 calls after it has been made; what later calls answer is free": so the 512th is as
 * good as the first. What lies behind it is nobody's promise, and no test asks for it.
 */
public final class CallsTest {
    public static void main(String[] args) {
        for (int set = 0; set < 3; set++) {
            allCallsSign(set);
        }
        theLastIsKeys();
        theLastIsRefused();
        theLastIsOfTheTape();
        Check.finish("CallsTest");
    }

    private static void allCallsSign(int set) {
        Reference r = new Reference(set);
        byte[] secret = r.keys(Check.noise(32, 8)).secretKey();
        byte[] message = Check.noise(20, 9);
        Player x = new Player();
        x.load(Check.RANDOM, Check.noise(32, 8));
        x.dsaKeys(set);
        x.resize(Check.RANDOM, 0);
        x.load(Check.MESSAGE, message);
        for (int i = 1; x.calls() + 5 <= Player.MOST_CALLS; i++) {
            message[0] ^= (byte) i;
            x.alter(Check.MESSAGE, 0, i % 256);
            List<Reference.Try> tries = r.sign(secret, message, new byte[32]);
            Check.same("set " + set + ", call " + (x.calls() + 1), x.dsaSign(set, -1), tries.size());
            Check.isTrue("set " + set + ", call " + (x.calls() + 1), x.dsaVerify(set, -1));
        }
        fill(x, 2);
        long due = 0;
        byte[] signature = last(r.sign(secret, message, new byte[32]));
        for (int i = 0; i < 8; i++) {
            due = due << 8 | signature[100 + i] & 255;
        }
        Check.same("call 511: a word of PACKET", x.word(Check.PACKET, 100), due);
        Check.isTrue("call 512: verify", x.dsaVerify(set, -1));
        Check.same("calls", x.calls(), 512);
    }

    private static byte[] last(List<Reference.Try> tries) {
        return tries.get(tries.size() - 1).signature;
    }

    /** Calls that change nothing, until so many are left. */
    private static void fill(Player x, int left) {
        while (x.calls() < Player.MOST_CALLS - left) {
            x.length(Check.SPARE);
        }
    }

    private static void theLastIsKeys() {
        for (int set = 0; set < 3; set++) {
            Player x = new Player();
            x.load(Check.RANDOM, Check.noise(32, 8));
            fill(x, 1);
            Check.same("call 512: keys", x.dsaKeys(set), Check.SECRET_SIZES[set]);
        }
    }

    private static void theLastIsRefused() {
        Player x = new Player();
        fill(x, 2);
        Check.same("call 511: no such slot", Check.answer(() -> x.length(8)), "IllegalArgumentException");
        Check.same("call 512: no RANDOM", Check.answer(() -> x.dsaKeys(0)), "IllegalStateException");
        Check.same("calls", x.calls(), 512);
    }

    private static void theLastIsOfTheTape() {
        Player x = new Player();
        for (int i = 1; i <= 409; i++) {
            x.feed(i, i, i, i, i);
        }
        fill(x, 3);
        Check.same("call 510: a full tape", Check.answer(() -> x.feed(0, 0, 0, 0, 0)), "IndexOutOfBoundsException");
        Check.same("call 511: end", x.end(7, 8180), 8180);
        Check.same("call 512: the last word", x.word(7, 8172), 0x0000019900000199L);
    }
}
