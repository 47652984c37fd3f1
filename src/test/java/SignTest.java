import java.util.List;

/**
 * Promise 11: dsaSign, but for the limits of SIGN, which stand in SignLimitsTest. The marks are of an implementation in
 * Python that agrees with OpenSSL.
 */
public final class SignTest {
    /** Set, seed of the key, how, whether there is a RANDOM, sizes of CONTEXT and MESSAGE, tries, mark of PACKET. */
    private static final Object[][] KNOWN = {
        {0, 1, 0, 0, 0, 0, 3, "e8ebcad448fa1526"},
        {0, 2, 0, 1, 0, 1, 12, "333417fc3d4c6d72"},
        {0, 3, 0, 0, 255, 100, 6, "e2f1518b8128062d"},
        {0, 4, 0, 1, 1, 8192, 5, "887b1b6bd65c6eb6"},
        {0, 5, -1, 0, 0, 0, 7, "1672e2b67e42582c"},
        {0, 6, -1, 1, 300, 8192, 4, "446b151b71d99988"},
        {0, 7, -1, 0, 0, 71, 4, "b8149bf491e53da4"},
        {0, 8, -1, 0, 0, 72, 10, "8d35b290ee9324d6"},
        {0, 9, -1, 0, 0, 73, 1, "4d67da579d577018"},
        {0, 10, 0, 0, 0, 69, 6, "4de5cd634713fc4f"},
        {0, 11, 0, 0, 0, 70, 11, "34ece26f9ba4f678"},
        {0, 12, 0, 0, 0, 71, 11, "2ecbd9cf03fc1d6c"},
        {0, 13, 0, 1, 255, 8192, 7, "b790560782d191dd"},
        {0, 14, 0, 0, 254, 15, 1, "b298a4024aee86df"},
        {1, 1, 0, 0, 0, 0, 6, "45a462fd884b11ad"},
        {1, 2, 0, 1, 0, 1, 10, "1d94eec7e049d811"},
        {1, 3, 0, 0, 255, 100, 3, "ebc2624167ddf23e"},
        {1, 4, 0, 1, 1, 8192, 3, "36a037576aeca19d"},
        {1, 5, -1, 0, 0, 0, 6, "e05bbe70b6ef8420"},
        {1, 6, -1, 1, 300, 8192, 14, "1ef3452909761a52"},
        {1, 7, -1, 0, 0, 71, 30, "9228b682d9bfddce"},
        {1, 8, -1, 0, 0, 72, 7, "6f628dfc7a44f2ed"},
        {1, 9, -1, 0, 0, 73, 1, "e235d4c2e443817d"},
        {1, 10, 0, 0, 0, 69, 8, "25cf52165cc9d9d9"},
        {1, 11, 0, 0, 0, 70, 1, "085f29dec9181c62"},
        {1, 12, 0, 0, 0, 71, 1, "d717d0184989df25"},
        {1, 13, 0, 1, 255, 8192, 7, "e0f5a7f62185e02f"},
        {1, 14, 0, 0, 254, 15, 4, "9ff8bc3e859a6567"},
        {2, 1, 0, 0, 0, 0, 2, "53a1e61901a8ac77"},
        {2, 2, 0, 1, 0, 1, 1, "db43ed4c79630e66"},
        {2, 3, 0, 0, 255, 100, 5, "f9ba7d4e7fc52f08"},
        {2, 4, 0, 1, 1, 8192, 1, "24ba6b8df16a1bf8"},
        {2, 5, -1, 0, 0, 0, 2, "3772593aca957471"},
        {2, 6, -1, 1, 300, 8192, 2, "d68619bf1ee6b12c"},
        {2, 7, -1, 0, 0, 71, 3, "dd86d8d7f04481f5"},
        {2, 8, -1, 0, 0, 72, 1, "6f94894ace70e141"},
        {2, 9, -1, 0, 0, 73, 2, "5128788f656468f9"},
        {2, 10, 0, 0, 0, 69, 1, "f15839dc70b53614"},
        {2, 11, 0, 0, 0, 70, 1, "7275852bcd24bc8e"},
        {2, 12, 0, 0, 0, 71, 4, "c60963d2b6cd048a"},
        {2, 13, 0, 1, 255, 8192, 1, "134938e5247e8336"},
        {2, 14, 0, 0, 254, 15, 1, "a01d0299e9f705e0"}
    };

    /** Set, what fills SECRET (-1: noise), tries, mark of PACKET. */
    private static final Object[][] ODD_SECRETS = {
        {0, 0, 19, "90b7e363867035d2"},
        {0, 255, 11, "cab32c1f6586aab9"},
        {0, -1, 3, "9a6b23e1422843db"},
        {1, 0, 21, "30c86c21674c74fb"},
        {1, 255, 5, "9b9794bd591f9f8a"},
        {1, -1, 1, "3046d013ccdf3653"},
        {2, 0, 18, "0dc713a1f7d2ec29"},
        {2, 255, 17, "8c287b35215fe42f"},
        {2, -1, 1, "4c87e12291b3021f"}
    };

    public static void main(String[] args) {
        for (Object[] row : KNOWN) {
            knownSignature(row);
        }
        for (Object[] row : ODD_SECRETS) {
            oddSecret(row);
        }
        for (int set = 0; set < 3; set++) {
            theHashIsOutOfTheSecret(set);
            emptyRandomIsZeros(set);
            contextsUpToTheLimit(set);
            secretsOfOtherSizes(set);
        }
        contextIsNothingToHowMinusOne();
        howZeroFramesTheMessage();
        onlyThePacketChanges();
        numbersOutOfRange();
        contextsOverTheLimit();
        randomsOfOtherSizes();
        Check.finish("SignTest");
    }

    private static void knownSignature(Object[] row) {
        int set = (int) row[0];
        int how = (int) row[2];
        byte[] random = Check.noise(32, (int) row[1]);
        byte[] fresh = (int) row[3] == 1 ? Check.noise(32, 79) : new byte[0];
        byte[] context = Check.noise((int) row[4], 78);
        byte[] message = Check.noise((int) row[5], 77);
        Player x = new Player();
        x.load(Check.RANDOM, random);
        x.dsaKeys(set);
        // Neither PUBLIC nor what PACKET held may play a part.
        x.resize(Check.PUBLIC, 0);
        x.resize(Check.PACKET, 8192);
        x.alter(Check.PACKET, 8191, 255);
        x.load(Check.RANDOM, fresh);
        x.load(Check.CONTEXT, context);
        x.load(Check.MESSAGE, message);
        String what = "sign with set " + set + ", key " + row[1];
        Check.same(what, x.dsaSign(set, how), row[6]);
        Check.same(what + ": PACKET", Check.mark(x.read(Check.PACKET)), row[7]);
        Reference r = new Reference(set);
        List<Reference.Try> tries = r.sign(r.keys(random).secretKey(), Reference.signed(how, context, message),
            fresh.length == 0 ? new byte[32] : fresh);
        Check.same(what + ": tries of the reference", tries.size(), row[6]);
        Check.bytes(what + ": PACKET of the reference", x.read(Check.PACKET), tries.get(tries.size() - 1).signature);
    }

    /** "what SECRET holds is taken as it stands": S and E out of their range, and a T0 and a hash of no key. */
    private static void oddSecret(Object[] row) {
        int set = (int) row[0];
        int fill = (int) row[1];
        int size = Check.SECRET_SIZES[set];
        Player x = new Player();
        x.load(Check.SECRET, fill < 0 ? Check.noise(size, 5) : Check.ramp(size, fill, 0));
        x.load(Check.MESSAGE, new byte[] {'a', 'b', 'c'});
        Check.same("odd SECRET " + fill + " of set " + set, x.dsaSign(set, -1), row[2]);
        Check.same("odd SECRET " + fill + " of set " + set + ": PACKET", Check.mark(x.read(Check.PACKET)), row[3]);
    }

    /** "H(P, 64) (out of D)": another hash there gives what the same key signs of another message. */
    private static void theHashIsOutOfTheSecret(int set) {
        Reference r = new Reference(set);
        byte[] secret = r.keys(Check.noise(32, 4)).secretKey();
        Player x = new Player();
        x.load(Check.RANDOM, Check.noise(32, 4));
        x.dsaKeys(set);
        x.resize(Check.RANDOM, 0);
        for (int i : new int[] {64, 127}) {
            x.alter(Check.SECRET, i, 1);
            secret[i] ^= 1;
            List<Reference.Try> tries = r.sign(secret, new byte[0], new byte[32]);
            Check.same("hash altered at " + i + ", set " + set, x.dsaSign(set, -1), tries.size());
            Check.bytes("hash altered at " + i + ", set " + set + ": PACKET", x.read(Check.PACKET),
                tries.get(tries.size() - 1).signature);
        }
    }

    /** "RANDOM neither 32 nor none (none: n is zeros)". */
    private static void emptyRandomIsZeros(int set) {
        Player x = new Player();
        x.load(Check.RANDOM, Check.noise(32, 4));
        x.dsaKeys(set);
        x.dsaSign(set, 0);
        x.copy(Check.PACKET, Check.SPARE);
        x.resize(Check.RANDOM, 0);
        x.dsaSign(set, 0);
        Check.isTrue("RANDOM matters", !x.same(Check.PACKET, Check.SPARE));
        x.copy(Check.PACKET, Check.SPARE);
        x.resize(Check.RANDOM, 32);
        x.dsaSign(set, 0);
        Check.isTrue("none is zeros", x.same(Check.PACKET, Check.SPARE));
        x.alter(Check.RANDOM, 31, 1);
        x.dsaSign(set, 0);
        Check.isTrue("the last byte of RANDOM matters", !x.same(Check.PACKET, Check.SPARE));
    }

    private static Player keyed(int set) {
        Player x = new Player();
        x.load(Check.RANDOM, Check.noise(32, 4));
        x.dsaKeys(set);
        x.resize(Check.RANDOM, 0);
        return x;
    }

    /** "CONTEXT has more than 255 BYTES": 255 of them, one and none are fine. */
    private static void contextsUpToTheLimit(int set) {
        Reference r = new Reference(set);
        byte[] secret = r.keys(Check.noise(32, 4)).secretKey();
        byte[] message = Check.ramp(30, 1, 1);
        for (int n : new int[] {0, 1, 254, 255}) {
            byte[] context = Check.noise(n, 9);
            Player x = keyed(set);
            x.load(Check.MESSAGE, message);
            x.load(Check.CONTEXT, context);
            List<Reference.Try> tries = r.sign(secret, Reference.signed(0, context, message), new byte[32]);
            Check.same("a context of " + n + ", set " + set, x.dsaSign(set, 0), tries.size());
            Check.bytes("a context of " + n + ", set " + set + ": PACKET", x.read(Check.PACKET),
                tries.get(tries.size() - 1).signature);
        }
    }

    /** "how -1: MESSAGE alone", and "how -1: any number is fine". */
    private static void contextIsNothingToHowMinusOne() {
        Player x = keyed(0);
        x.load(Check.MESSAGE, Check.ramp(30, 1, 1));
        x.dsaSign(0, -1);
        x.copy(Check.PACKET, Check.SPARE);
        for (int n : new int[] {1, 255, 256, 257, 8191, 8192}) {
            x.resize(Check.CONTEXT, n);
            x.dsaSign(0, -1);
            Check.isTrue("how -1 with a context of " + n, x.same(Check.PACKET, Check.SPARE));
        }
    }

    /** "how 0: 0 | length of CONTEXT | CONTEXT | MESSAGE": the same, as a MESSAGE alone, is signed the same. */
    private static void howZeroFramesTheMessage() {
        byte[] message = Check.ramp(30, 1, 1);
        for (int n : new int[] {0, 1, 127, 128, 255}) {
            byte[] context = Check.noise(n, 9);
            Player x = keyed(0);
            x.load(Check.MESSAGE, message);
            x.load(Check.CONTEXT, context);
            x.dsaSign(0, 0);
            x.copy(Check.PACKET, Check.SPARE);
            x.load(Check.MESSAGE, Reference.join(new byte[] {0, (byte) n}, context, message));
            x.dsaSign(0, -1);
            Check.isTrue("a context of " + n + " frames the message", x.same(Check.PACKET, Check.SPARE));
            x.dsaSign(0, 0);
            Check.isTrue("how 0 frames it once more", !x.same(Check.PACKET, Check.SPARE));
        }
    }

    private static void onlyThePacketChanges() {
        for (int set = 0; set < 3; set++) {
            Player x = new Player();
            x.load(Check.RANDOM, Check.noise(32, 4));
            x.dsaKeys(set);
            x.load(Check.MESSAGE, Check.noise(500, 5));
            x.load(Check.CONTEXT, Check.noise(200, 6));
            x.load(Check.SHARED, Check.noise(300, 7));
            x.load(Check.SPARE, Check.noise(400, 8));
            x.feed(1, 2, 3, 4, 5);
            byte[][] due = x.state().clone();
            x.dsaSign(set, 0);
            due[Check.PACKET] = x.read(Check.PACKET);
            Check.same("the size of PACKET", due[Check.PACKET].length, Check.PACKET_SIZES[set]);
            for (int i = 0; i < due.length; i++) {
                Check.bytes("row " + i + " after dsaSign", x.state()[i], due[i]);
            }
        }
    }

    /** "set 0 .. 2, how -1, 0". */
    private static void numbersOutOfRange() {
        Player x = keyed(1);
        x.feed(1, 2, 3, 4, 5);
        int[][] bad = {{-1, 0}, {3, 0}, {-1, -1}, {3, -1}, {1, 1}, {1, -2}, {3, 1}, {-1, -2}, {Check.LEAST, -1},
            {Check.GREATEST, 0}, {1, Check.LEAST}, {1, Check.GREATEST}};
        for (int[] b : bad) {
            Check.refuses(x, "sign " + b[0] + " " + b[1], () -> x.dsaSign(b[0], b[1]), IllegalArgumentException.class);
        }
    }

    /** "CONTEXT has more than 255 BYTES .. IllegalStateException". */
    private static void contextsOverTheLimit() {
        for (int set = 0; set < 3; set++) {
            Player x = keyed(set);
            int s = set;
            x.load(Check.PACKET, Check.noise(20, 4));
            for (int n : new int[] {256, 257, 511, 512, 8192}) {
                x.resize(Check.CONTEXT, n);
                Check.refuses(x, "a context of " + n, () -> x.dsaSign(s, 0), IllegalStateException.class);
            }
        }
    }

    /** "RANDOM neither 32 nor none .. IllegalStateException", be how what it may. */
    private static void randomsOfOtherSizes() {
        for (int set = 0; set < 3; set++) {
            Player x = keyed(set);
            int s = set;
            x.load(Check.PACKET, Check.noise(20, 4));
            for (int n : new int[] {1, 31, 33, 64, 8192}) {
                x.resize(Check.RANDOM, n);
                Check.refuses(x, "a random of " + n, () -> x.dsaSign(s, 0), IllegalStateException.class);
                Check.refuses(x, "a random of " + n, () -> x.dsaSign(s, -1), IllegalStateException.class);
            }
            x.resize(Check.RANDOM, 32);
            Check.isTrue("a random of 32", x.dsaSign(set, 0) > 0);
            x.resize(Check.RANDOM, 0);
            Check.isTrue("no random", x.dsaSign(set, 0) > 0);
        }
    }

    /** "SECRET not as many as a D: UnsupportedOperationException." */
    private static void secretsOfOtherSizes(int set) {
        Player x = keyed(set);
        int size = Check.SECRET_SIZES[set];
        x.load(Check.PACKET, Check.noise(20, 4));
        for (int n : new int[] {size + 1, Check.SECRET_SIZES[(set + 1) % 3], Check.SECRET_SIZES[(set + 2) % 3], 8192,
            size - 1, 1, 0}) {
            x.resize(Check.SECRET, n);
            Check.refuses(x, "a secret of " + n, () -> x.dsaSign(set, 0), UnsupportedOperationException.class);
            Check.refuses(x, "a secret of " + n, () -> x.dsaSign(set, -1), UnsupportedOperationException.class);
        }
        x.resize(Check.SECRET, size);
        Check.isTrue("a secret of " + size, x.dsaSign(set, 0) > 0);
    }
}
