import java.util.Arrays;
import java.util.Random;

/** Promise 11: dsaSign. The marks are of an implementation in Python that agrees with OpenSSL. */
public final class SignTest {
    /** Set, seed of the key, how, whether there is a RANDOM, sizes of CONTEXT and MESSAGE, tries, mark of PACKET. */
    private static final Object[][] KNOWN = {
        {0, 1, 0, 0, 0, 0, 3, "e8ebcad448fa1526"},
        {0, 2, 0, 1, 0, 1, 12, "333417fc3d4c6d72"},
        {0, 3, 0, 0, 255, 100, 6, "e2f1518b8128062d"},
        {0, 4, 0, 1, 1, 8192, 5, "887b1b6bd65c6eb6"},
        {0, 5, -1, 0, 0, 0, 7, "1672e2b67e42582c"},
        {0, 6, -1, 1, 300, 8192, 4, "446b151b71d99988"},
        {0, 7, -1, 0, 0, 71, 4, "b8149bf491e53da4"},
        {0, 8, -1, 0, 0, 72, 10, "8d35b290ee9324d6"},
        {0, 9, -1, 0, 0, 73, 1, "4d67da579d577018"},
        {0, 10, 0, 0, 0, 69, 6, "4de5cd634713fc4f"},
        {0, 11, 0, 0, 0, 70, 11, "34ece26f9ba4f678"},
        {0, 12, 0, 0, 0, 71, 11, "2ecbd9cf03fc1d6c"},
        {0, 13, 0, 1, 255, 8192, 7, "b790560782d191dd"},
        {0, 14, 0, 0, 254, 15, 1, "b298a4024aee86df"},
        {1, 1, 0, 0, 0, 0, 6, "45a462fd884b11ad"},
        {1, 2, 0, 1, 0, 1, 10, "1d94eec7e049d811"},
        {1, 3, 0, 0, 255, 100, 3, "ebc2624167ddf23e"},
        {1, 4, 0, 1, 1, 8192, 3, "36a037576aeca19d"},
        {1, 5, -1, 0, 0, 0, 6, "e05bbe70b6ef8420"},
        {1, 6, -1, 1, 300, 8192, 14, "1ef3452909761a52"},
        {1, 7, -1, 0, 0, 71, 30, "9228b682d9bfddce"},
        {1, 8, -1, 0, 0, 72, 7, "6f628dfc7a44f2ed"},
        {1, 9, -1, 0, 0, 73, 1, "e235d4c2e443817d"},
        {1, 10, 0, 0, 0, 69, 8, "25cf52165cc9d9d9"},
        {1, 11, 0, 0, 0, 70, 1, "085f29dec9181c62"},
        {1, 12, 0, 0, 0, 71, 1, "d717d0184989df25"},
        {1, 13, 0, 1, 255, 8192, 7, "e0f5a7f62185e02f"},
        {1, 14, 0, 0, 254, 15, 4, "9ff8bc3e859a6567"},
        {2, 1, 0, 0, 0, 0, 2, "53a1e61901a8ac77"},
        {2, 2, 0, 1, 0, 1, 1, "db43ed4c79630e66"},
        {2, 3, 0, 0, 255, 100, 5, "f9ba7d4e7fc52f08"},
        {2, 4, 0, 1, 1, 8192, 1, "24ba6b8df16a1bf8"},
        {2, 5, -1, 0, 0, 0, 2, "3772593aca957471"},
        {2, 6, -1, 1, 300, 8192, 2, "d68619bf1ee6b12c"},
        {2, 7, -1, 0, 0, 71, 3, "dd86d8d7f04481f5"},
        {2, 8, -1, 0, 0, 72, 1, "6f94894ace70e141"},
        {2, 9, -1, 0, 0, 73, 2, "5128788f656468f9"},
        {2, 10, 0, 0, 0, 69, 1, "f15839dc70b53614"},
        {2, 11, 0, 0, 0, 70, 1, "7275852bcd24bc8e"},
        {2, 12, 0, 0, 0, 71, 4, "c60963d2b6cd048a"},
        {2, 13, 0, 1, 255, 8192, 1, "134938e5247e8336"},
        {2, 14, 0, 0, 254, 15, 1, "a01d0299e9f705e0"}
    };

    /** Set, what fills SECRET (-1: noise), tries, mark of PACKET. */
    private static final Object[][] ODD_SECRETS = {
        {0, 0, 19, "90b7e363867035d2"},
        {0, 255, 11, "cab32c1f6586aab9"},
        {0, -1, 3, "9a6b23e1422843db"},
        {1, 0, 21, "30c86c21674c74fb"},
        {1, 255, 5, "9b9794bd591f9f8a"},
        {1, -1, 1, "3046d013ccdf3653"},
        {2, 0, 18, "0dc713a1f7d2ec29"},
        {2, 255, 17, "8c287b35215fe42f"},
        {2, -1, 1, "4c87e12291b3021f"}
    };

    private static final int MADE = 0;
    private static final int ZEROS = 1;
    private static final int FAR_IN_ONE = 2;
    private static final int FAR_IN_TWO = 3;

    /**
     * Where a limit decides which try holds: kind of SECRET, set, number that is the message, tries, mark of PACKET.
     * Each was found by moving the limit by one and looking for the first number at which that shows.
     */
    private static final Object[][] LIMITS = {
        // LOW is less by 1 where HIGH would be M, and only so is g2 - B or more without its sign.
        {MADE, 0, 13984, 10, "e198dbe83df86177"},
        {MADE, 1, 2684, 6, "15c30dda4614526e"},
        {MADE, 2, 802, 4, "ec66b027ae57c8d2"},
        // LOW is g2 - B.
        {MADE, 0, 721, 5, "5f9ff0a9d9b5a577"},
        {MADE, 1, 267, 18, "afe9e21e1472ca38"},
        {MADE, 2, 203, 2, "ce90eef36a588fcd"},
        // LOW is B - g2.
        {MADE, 0, 22, 4, "0bc019fa9216996f"},
        {MADE, 1, 62, 21, "830a262dafc09706"},
        {MADE, 2, 224, 19, "e8d789f965ab2b8a"},
        // |Z i| is g1 - B.
        {MADE, 0, 170, 7, "26fdfa5a5f3f4c37"},
        {MADE, 1, 164, 18, "cce83bb79d576f3f"},
        {MADE, 2, 550, 9, "571f4690922398b4"},
        // |Z i| is one below that.
        {MADE, 0, 9, 3, "455cbac778640f51"},
        {MADE, 1, 280, 4, "1d5d5ec762682fb1"},
        {MADE, 2, 174, 5, "3fef121baaa17bf9"},
        // There are just w hints.
        {ZEROS, 0, 1, 7, "04544fe6cbcdb76f"},
        {ZEROS, 1, 26, 1, "c02b53f6d038f3ae"},
        {ZEROS, 2, 99, 1, "4f369021dbd79e6a"},
        // |b T0 i| is above g2, and just g2; in the other sets it can't be.
        {FAR_IN_ONE, 0, 12, 6, "93690d8ecdc6b49a"},
        {FAR_IN_ONE, 0, 36, 7, "94f8d294f022a7c0"},
        {FAR_IN_TWO, 0, 2540, 5, "6760765180c03181"}
    };

    public static void main(String[] args) {
        for (Object[] row : KNOWN) {
            knownSignature(row);
        }
        for (Object[] row : LIMITS) {
            limit(row);
        }
        for (Object[] row : ODD_SECRETS) {
            oddSecret(row);
        }
        lastTryHolds();
        noTryHolds();
        emptyRandomIsZeros();
        contextIsNothingToHowMinusOne();
        nothingElseChanges();
        wrongNumbers();
        wrongStates();
        wrongSecrets();
        Check.finish("SignTest");
    }

    private static void knownSignature(Object[] row) {
        int set = (int) row[0];
        ModuleSigner x = new ModuleSigner();
        Check.load(x, Check.RANDOM, Check.noise(32, (int) row[1]));
        x.dsaKeys(set);
        // Neither PUBLIC nor what PACKET held may play a part.
        x.resize(Check.PUBLIC, 0);
        Check.load(x, Check.PACKET, Check.noise(8192, 3));
        Check.load(x, Check.RANDOM, (int) row[3] == 1 ? Check.noise(32, 79) : new byte[0]);
        Check.load(x, Check.CONTEXT, Check.noise((int) row[4], 78));
        Check.load(x, Check.MESSAGE, Check.noise((int) row[5], 77));
        String what = "sign with set " + set + ", key " + row[1];
        Check.same(what, x.dsaSign(set, (int) row[2]), row[6]);
        Check.same(what + ": the size", x.length(Check.PACKET), Check.PACKET_SIZES[set]);
        Check.same(what + ": PACKET", Check.mark(x, Check.PACKET), row[7]);
    }

    private static void oddSecret(Object[] row) {
        int set = (int) row[0];
        int fill = (int) row[1];
        int size = Check.SECRET_SIZES[set];
        ModuleSigner x = new ModuleSigner();
        Check.load(x, Check.SECRET, fill < 0 ? Check.noise(size, 5) : Check.ramp(size, fill, 0));
        Check.load(x, Check.MESSAGE, new byte[] {'a', 'b', 'c'});
        Check.same("odd SECRET " + fill + " of set " + set, x.dsaSign(set, -1), row[2]);
        Check.same("odd SECRET " + fill + " of set " + set + ": PACKET", Check.mark(x, Check.PACKET), row[3]);
    }

    private static void limit(Object[] row) {
        int set = (int) row[1];
        int number = (int) row[2];
        ModuleSigner x = new ModuleSigner();
        loadSecret(x, (int) row[0], set);
        Check.load(x, Check.MESSAGE, new byte[] {0, 0, (byte) (number >> 8), (byte) number});
        Check.same("limit in set " + set + ", message " + number, x.dsaSign(set, -1), row[3]);
        Check.same("limit in set " + set + ", message " + number + ": PACKET", Check.mark(x, Check.PACKET), row[4]);
    }

    private static void loadSecret(ModuleSigner x, int kind, int set) {
        if (kind == MADE) {
            Check.load(x, Check.RANDOM, Check.noise(32, 1));
            x.dsaKeys(set);
            x.resize(Check.RANDOM, 0);
        } else if (kind == ZEROS) {
            x.resize(Check.SECRET, Check.SECRET_SIZES[set]);
        } else if (kind == FAR_IN_ONE) {
            Check.load(x, Check.SECRET, farSecret(set, 1, 1, 4096));
        } else {
            Check.load(x, Check.SECRET, farSecret(set, 1, 2, 3072));
        }
    }

    /** A SECRET of noise, but T0 is far out, either way, all over its first polynomials, and 0 in the others. */
    private static byte[] farSecret(int set, long seed, int polynomials, int far) {
        int[] rows = {4, 6, 8};
        int[] starts = {128 + 32 * 3 * 8, 128 + 32 * 4 * 11, 128 + 32 * 3 * 15};
        byte[] secret = new byte[Check.SECRET_SIZES[set]];
        Random random = new Random(seed);
        random.nextBytes(secret);
        Arrays.fill(secret, starts[set], secret.length, (byte) 0);
        for (int i = 0; i < 256 * rows[set]; i++) {
            int drop = i >= 256 * polynomials ? 0 : random.nextBoolean() ? Math.max(-far, -4095) : far;
            for (int j = 0; j < 13; j++) {
                int bit = 13 * i + j;
                secret[starts[set] + bit / 8] |= (byte) ((4096 - drop >> j & 1) << bit % 8);
            }
        }
        return secret;
    }

    /** There are nearly always too many hints. */
    private static byte[] wildSecret(int set, long seed) {
        return farSecret(set, seed, 8, 4096);
    }

    private static void lastTryHolds() {
        ModuleSigner x = new ModuleSigner();
        Check.load(x, Check.SECRET, wildSecret(0, 3061));
        Check.same("try 814 holds", x.dsaSign(0, -1), 814);
        Check.same("try 814 holds: PACKET", Check.mark(x, Check.PACKET), "4e9d738515ef9ef3");
        Check.load(x, Check.SECRET, wildSecret(2, 9));
        Check.same("try 796 holds", x.dsaSign(2, -1), 796);
        Check.same("try 796 holds: PACKET", Check.mark(x, Check.PACKET), "f6191002f0373632");
    }

    private static void noTryHolds() {
        ModuleSigner x = new ModuleSigner();
        Check.load(x, Check.PACKET, Check.noise(100, 9));
        Check.load(x, Check.SECRET, wildSecret(0, 1));
        Check.refuses(x, "no try holds", () -> x.dsaSign(0, -1), ArithmeticException.class);
        Check.load(x, Check.SECRET, wildSecret(2, 6));
        Check.refuses(x, "no try holds", () -> x.dsaSign(2, -1), ArithmeticException.class);
        Check.load(x, Check.SECRET, wildSecret(2, 49));
        Check.refuses(x, "try 815 would hold", () -> x.dsaSign(2, -1), ArithmeticException.class);
        Check.load(x, Check.SECRET, Check.noise(Check.SECRET_SIZES[0], 5));
        Check.load(x, Check.MESSAGE, new byte[] {'a', 'b', 'c'});
        Check.same("sign after that", x.dsaSign(0, -1), 3);
        Check.same("sign after that: PACKET", Check.mark(x, Check.PACKET), "9a6b23e1422843db");
    }

    private static void emptyRandomIsZeros() {
        for (int set = 0; set < 3; set++) {
            ModuleSigner x = new ModuleSigner();
            Check.load(x, Check.RANDOM, Check.noise(32, 4));
            x.dsaKeys(set);
            x.dsaSign(set, 0);
            x.copy(Check.PACKET, Check.SPARE);
            x.resize(Check.RANDOM, 0);
            x.dsaSign(set, 0);
            Check.isTrue("RANDOM matters", !x.same(Check.PACKET, Check.SPARE));
            x.copy(Check.PACKET, Check.SPARE);
            x.resize(Check.RANDOM, 32);
            x.dsaSign(set, 0);
            Check.isTrue("none is zeros", x.same(Check.PACKET, Check.SPARE));
        }
    }

    private static void contextIsNothingToHowMinusOne() {
        ModuleSigner x = new ModuleSigner();
        Check.load(x, Check.RANDOM, Check.noise(32, 4));
        x.dsaKeys(0);
        x.dsaSign(0, -1);
        x.copy(Check.PACKET, Check.SPARE);
        for (int n : new int[] {1, 255, 256, 8192}) {
            x.resize(Check.CONTEXT, n);
            x.dsaSign(0, -1);
            Check.isTrue("how -1 with a context of " + n, x.same(Check.PACKET, Check.SPARE));
        }
        // 0 | 0 | MESSAGE, signed as it stands, is what how 0 signs with no CONTEXT.
        x.resize(Check.CONTEXT, 0);
        Check.load(x, Check.MESSAGE, Check.ramp(30, 1, 1));
        x.dsaSign(0, 0);
        x.copy(Check.PACKET, Check.SPARE);
        byte[] framed = new byte[32];
        System.arraycopy(Check.ramp(30, 1, 1), 0, framed, 2, 30);
        Check.load(x, Check.MESSAGE, framed);
        x.dsaSign(0, -1);
        Check.isTrue("how 0 frames the message", x.same(Check.PACKET, Check.SPARE));
    }

    private static void nothingElseChanges() {
        ModuleSigner x = new ModuleSigner();
        Check.load(x, Check.RANDOM, Check.noise(32, 4));
        x.dsaKeys(2);
        Check.load(x, Check.MESSAGE, Check.noise(500, 5));
        Check.load(x, Check.CONTEXT, Check.noise(200, 6));
        Check.load(x, Check.SHARED, Check.noise(300, 7));
        Check.load(x, Check.SPARE, Check.noise(400, 8));
        x.feed(1, 2, 3, 4, 5);
        byte[] none = new byte[0];
        Check.same("PACKET is empty", Check.hex(Check.read(x, Check.PACKET)), Check.hex(none));
        String before = Check.state(x);
        x.dsaSign(2, 0);
        x.resize(Check.PACKET, 0);
        Check.isTrue("only PACKET changes", before.equals(Check.state(x)));
        Check.same("the tape stays", x.feed(1, 2, 3, 4, 5), 40);
    }

    private static void wrongNumbers() {
        ModuleSigner x = new ModuleSigner();
        // Everything else is wrong, too: the numbers come first.
        x.resize(Check.RANDOM, 5);
        x.resize(Check.CONTEXT, 256);
        int[][] bad = {{-1, 0}, {3, 0}, {0, 1}, {0, -2}, {3, 1}, {Integer.MIN_VALUE, -1}, {Integer.MAX_VALUE, -1},
            {2, Integer.MIN_VALUE}, {2, Integer.MAX_VALUE}};
        for (int[] b : bad) {
            Check.refuses(x, "sign " + b[0] + " " + b[1], () -> x.dsaSign(b[0], b[1]), IllegalArgumentException.class);
        }
    }

    private static void wrongStates() {
        ModuleSigner x = new ModuleSigner();
        Check.load(x, Check.RANDOM, Check.noise(32, 4));
        x.dsaKeys(1);
        Check.load(x, Check.PACKET, Check.noise(20, 4));
        for (int n : new int[] {256, 257, 8192}) {
            x.resize(Check.CONTEXT, n);
            Check.refuses(x, "a context of " + n, () -> x.dsaSign(1, 0), IllegalStateException.class);
            Check.refuses(x, "a context of " + n + " comes before SECRET", () -> x.dsaSign(0, 0),
                IllegalStateException.class);
        }
        x.resize(Check.CONTEXT, 255);
        for (int n : new int[] {1, 31, 33, 64, 8192}) {
            x.resize(Check.RANDOM, n);
            for (int how = -1; how <= 0; how++) {
                int h = how;
                Check.refuses(x, "a random of " + n, () -> x.dsaSign(1, h), IllegalStateException.class);
                Check.refuses(x, "a random of " + n + " comes before SECRET", () -> x.dsaSign(2, h),
                    IllegalStateException.class);
            }
        }
        x.resize(Check.RANDOM, 32);
        Check.isTrue("all is fine again", x.dsaSign(1, 0) > 0);
    }

    private static void wrongSecrets() {
        ModuleSigner x = new ModuleSigner();
        for (int set = 0; set < 3; set++) {
            int size = Check.SECRET_SIZES[set];
            int s = set;
            for (int n : new int[] {0, size - 1, size + 1, Check.SECRET_SIZES[(set + 1) % 3], 8192}) {
                x.resize(Check.SECRET, n);
                Check.refuses(x, "a secret of " + n, () -> x.dsaSign(s, 0), UnsupportedOperationException.class);
                Check.refuses(x, "a secret of " + n, () -> x.dsaSign(s, -1), UnsupportedOperationException.class);
            }
        }
    }
}
