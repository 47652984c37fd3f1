import java.math.BigInteger;
import java.util.Arrays;

/**
 * Promise 12: the limits of VERIFY, of HIGH and LOW, and of BALL, from both sides. Most packets here are for a key with
 * a T1 of 0: then b plays no part in X, so whoever knows what will be compared can write it down as C. So each packet
 * is true if it is not refused, and each that stands just inside a limit is true indeed.
 *
 * A boundary no known run of calls reaches: "byte by byte (at most 121, else ArithmeticException)" of BALL. C may be
 * chosen, but not what SHAKE256 makes of it, and more than 121 - t of 121 bytes would have to be above i, which is at
 * least 256 - t: for t 60 that is about 1 C in 2^75, for t 49 1 in 2^124, for t 39 1 in 2^184. (The first 8 bytes, read
 * before that, are not counted among the 121.) What is tested is the farthest of ten million Cs. Nor is a run known for
 * the ArithmeticException of SAMPLE in dsaSign and dsaVerify: KeysTest says why. LoweredLimitsTest goes over both.
 */
public final class VerifyLimitsTest {
    /** As how 0 has the message "a" with no CONTEXT: so OpenSSL could be asked about these packets, and it agreed. */
    private static final byte[] MESSAGE = {0, 0, 'a'};
    /** For each set the number at the start of C for which BALL takes the most bytes, and how many. */
    private static final int[][] FARTHEST_BALLS = {{1556876, 57}, {3305900, 72}, {5346288, 95}};

    public static void main(String[] args) {
        for (int set = 0; set < 3; set++) {
            answersAtTheLimit(set);
            hintsThatAreFine(set);
            countsThatFallOrAreTooMany(set);
            placesThatDoNotRise(set);
            bytesBehindTheHints(set);
            highsAndLows(set);
            eachByteOfTheChallengeCounts(set);
            ballsThatTakeJustIn(set);
            farthestBall(set);
            keyOfOnes(set);
        }
        Check.finish("VerifyLimitsTest");
    }

    /** T1 is 0. */
    private static byte[] openKey(Reference r) {
        return Arrays.copyOf(Check.ramp(32, 0, 1), r.publicSize);
    }

    /** A packet for the open key whose C is what is found if nothing is refused. */
    private static byte[] packet(Reference r, int[][] answers, byte[] hintBytes) {
        byte[] packet = Reference.join(new byte[r.c], Reference.packAll(answers, r.g1, r.maskBits), hintBytes);
        byte[] found = r.found(openKey(r), MESSAGE, packet, looseHints(r, hintBytes));
        System.arraycopy(found, 0, packet, 0, r.c);
        return packet;
    }

    /** The hints as somebody would read them who looks at nothing that could be wrong with them. */
    private static int[][] looseHints(Reference r, byte[] hintBytes) {
        int[][] hints = new int[r.k][];
        int from = 0;
        for (int i = 0; i < r.k; i++) {
            int to = hintBytes[r.w + i] & 255;
            int start = Math.min(from, r.w);
            int end = Math.max(start, Math.min(to, r.w));
            hints[i] = new int[end - start];
            for (int j = start; j < end; j++) {
                hints[i][j - start] = hintBytes[j] & 255;
            }
            from = to;
        }
        return hints;
    }

    private static Player loaded(byte[] key, byte[] packet) {
        Player x = new Player();
        x.load(Check.PUBLIC, key);
        x.load(Check.MESSAGE, MESSAGE);
        x.load(Check.PACKET, packet);
        x.load(Check.SHARED, Check.noise(70, 70));
        return x;
    }

    private static void isTrue(int set, String what, byte[] packet) {
        Reference r = new Reference(set);
        Player x = loaded(openKey(r), packet);
        Check.isTrue("set " + set + ", " + what + " is true", x.dsaVerify(set, -1));
        Check.bytes("set " + set + ", " + what + ": SHARED", x.read(Check.SHARED), Reference.part(packet, 0, r.c));
        Check.bytes("set " + set + ", " + what + ": the reference", Reference.part(packet, 0, r.c),
            r.compared(openKey(r), MESSAGE, packet));
    }

    /** "else SHARED stays", and so does all else. */
    private static void isRefused(int set, String what, byte[] packet) {
        Player x = loaded(openKey(new Reference(set)), packet);
        byte[][] before = x.state();
        Check.isTrue("set " + set + ", " + what + " is false", !x.dsaVerify(set, -1));
        Check.isTrue("set " + set + ", " + what + " is false, how 0", !x.dsaVerify(set, 0));
        Check.isTrue("set " + set + ", " + what + ": SHARED stays", Arrays.deepEquals(before, x.state()));
        Check.isTrue("set " + set + ", " + what + ": the reference",
            new Reference(set).compared(openKey(new Reference(set)), MESSAGE, packet) == null);
    }

    /** "each |Z i| is below g1 - B". */
    private static void answersAtTheLimit(int set) {
        Reference r = new Reference(set);
        int limit = r.g1 - r.bound;
        byte[] noHints = new byte[r.w + r.k];
        for (int place : new int[] {0, 255, 256 * r.l - 256, 256 * r.l - 1}) {
            for (int value : new int[] {limit - 1, 1 - limit}) {
                isTrue(set, "an answer of " + value, packet(r, oneAnswer(r, place, value), noHints));
            }
            for (int value : new int[] {limit, -limit, limit + 1, -limit - 1, r.g1, 1 - r.g1}) {
                isRefused(set, "an answer of " + value, packet(r, oneAnswer(r, place, value), noHints));
            }
        }
    }

    private static int[][] oneAnswer(Reference r, int place, int value) {
        int[][] answers = new int[r.l][256];
        answers[place / 256][place % 256] = Math.floorMod(value, Reference.Q);
        return answers;
    }

    /** Answers that are all different. */
    private static int[][] someAnswers(Reference r) {
        int[][] answers = new int[r.l][256];
        for (int i = 0; i < 256 * r.l; i++) {
            answers[i / 256][i % 256] = Math.floorMod(i % 2 == 0 ? 50 * i : -50 * i, Reference.Q);
        }
        return answers;
    }

    /** Counts that are the same or 0 or w, places 0 and 255, and places that start anew with each polynomial. */
    private static void hintsThatAreFine(int set) {
        Reference r = new Reference(set);
        hintsAreTrue(set, "no hint", new int[r.k][0]);
        for (int i : new int[] {0, 1, r.k - 1}) {
            hintsAreTrue(set, "place 0 in " + i, only(r, i, new int[] {0}));
            hintsAreTrue(set, "place 255 in " + i, only(r, i, new int[] {255}));
            hintsAreTrue(set, "places 0, 1, 254, 255 in " + i, only(r, i, new int[] {0, 1, 254, 255}));
            hintsAreTrue(set, "w hints in " + i, only(r, i, rising(r.w, 0)));
            hintsAreTrue(set, "w hints up to place 255 in " + i, only(r, i, rising(r.w, 256 - r.w)));
        }
        int[][] hints = only(r, 0, new int[] {254, 255});
        hints[1] = new int[] {0, 255};
        hints[r.k - 1] = new int[] {0};
        hintsAreTrue(set, "places that start anew", hints);
        int[][] spread = new int[r.k][];
        for (int i = 0; i < r.k; i++) {
            int share = r.w / r.k;
            spread[i] = rising(i < r.k - 1 ? share : r.w - share * (r.k - 1), 100);
        }
        hintsAreTrue(set, "w hints in all", spread);
        spread[r.k - 1] = Arrays.copyOf(spread[r.k - 1], spread[r.k - 1].length - 1);
        hintsAreTrue(set, "one less than w in all", spread);
    }

    private static void hintsAreTrue(int set, String what, int[][] hints) {
        Reference r = new Reference(set);
        isTrue(set, what, packet(r, someAnswers(r), r.packHints(hints)));
    }

    private static int[][] only(Reference r, int i, int[] places) {
        int[][] hints = new int[r.k][0];
        hints[i] = places;
        return hints;
    }

    private static int[] rising(int n, int from) {
        int[] places = new int[n];
        for (int i = 0; i < n; i++) {
            places[i] = from + i;
        }
        return places;
    }

    /** "the counts at its end do not fall and are at most w". */
    private static void countsThatFallOrAreTooMany(int set) {
        Reference r = new Reference(set);
        int last = r.k - 1;
        // Pairs: from which polynomial on, which count.
        hintsAreRefused(set, "a last count of w + 1", new int[][] {{last, r.w + 1}}, rising(r.w, 1));
        hintsAreRefused(set, "all counts w + 1", new int[][] {{0, r.w + 1}}, rising(r.w, 1));
        hintsAreRefused(set, "a last count of 128", new int[][] {{last, 128}}, rising(r.w, 1));
        hintsAreRefused(set, "a last count of 255", new int[][] {{last, 255}}, rising(r.w, 1));
        hintsAreRefused(set, "a first count of w + 1", new int[][] {{0, r.w + 1}, {1, r.w}}, rising(r.w, 1));
        hintsAreRefused(set, "a middle count of w + 1", new int[][] {{1, r.w + 1}, {2, r.w}}, rising(r.w, 1));
        hintsAreRefused(set, "a first count that falls by one", new int[][] {{0, 5}, {1, 4}}, rising(5, 1));
        hintsAreRefused(set, "a last count that falls by one", new int[][] {{1, 5}, {last, 4}}, rising(5, 1));
        hintsAreRefused(set, "a count that falls to 0", new int[][] {{0, 1}, {1, 0}}, new int[0]);
        hintsAreRefused(set, "a last count that falls to 0", new int[][] {{0, 1}, {last, 0}}, new int[0]);
        hintsAreRefused(set, "a count that falls and rises", new int[][] {{0, 2}, {1, 1}, {2, 2}}, rising(2, 1));
        hintsAreRefused(set, "a count that falls from w", new int[][] {{0, r.w}, {last, r.w - 1}}, rising(r.w, 1));
    }

    /** "the places of each polynomial rise (none twice)". */
    private static void placesThatDoNotRise(int set) {
        int last = new Reference(set).k - 1;
        hintsAreRefused(set, "place 0 twice", new int[][] {{0, 2}}, new int[] {0, 0});
        hintsAreRefused(set, "place 7 twice", new int[][] {{1, 2}}, new int[] {7, 7});
        hintsAreRefused(set, "place 255 twice", new int[][] {{last, 3}}, new int[] {1, 255, 255});
        hintsAreRefused(set, "places that fall by one", new int[][] {{0, 2}}, new int[] {8, 7});
        hintsAreRefused(set, "places that fall to 0", new int[][] {{last, 2}}, new int[] {1, 0});
        hintsAreRefused(set, "places that rise and fall", new int[][] {{0, 3}}, new int[] {7, 9, 8});
        hintsAreRefused(set, "places that fall over 128", new int[][] {{1, 2}}, new int[] {128, 127});
        hintsAreRefused(set, "places that fall in the last", new int[][] {{0, 2}, {last, 4}},
            new int[] {7, 9, 255, 127});
        hintsAreRefused(set, "places that fall in a middle one", new int[][] {{0, 1}, {1, 3}, {2, 4}},
            new int[] {3, 9, 2, 8});
    }

    /** "all BYTES between the last of them and byte w are 0". */
    private static void bytesBehindTheHints(int set) {
        Reference r = new Reference(set);
        hintsAreRefused(set, "a byte behind none", new int[0][], new int[] {1});
        hintsAreRefused(set, "the last byte behind none", new int[0][], lone(r.w, 1));
        hintsAreRefused(set, "255 as the last byte", new int[0][], lone(r.w, 255));
        hintsAreRefused(set, "128 in the middle", new int[0][], lone(r.w / 2, 128));
        hintsAreRefused(set, "a byte behind the last place", new int[][] {{0, 2}}, new int[] {8, 9, 10});
        hintsAreRefused(set, "the last byte behind one place", new int[][] {{r.k - 1, 1}}, lone(r.w, 1));
        hintsAreRefused(set, "the last byte behind w - 1 places", new int[][] {{r.k - 1, r.w - 1}}, rising(r.w, 1));
    }

    /** Zeros, and behind them a value. */
    private static int[] lone(int n, int value) {
        int[] places = new int[n];
        places[n - 1] = value;
        return places;
    }

    private static void hintsAreRefused(int set, String what, int[][] counts, int[] places) {
        Reference r = new Reference(set);
        byte[] hintBytes = new byte[r.w + r.k];
        for (int i = 0; i < places.length; i++) {
            hintBytes[i] = (byte) places[i];
        }
        for (int[] count : counts) {
            Arrays.fill(hintBytes, r.w + count[0], r.w + r.k, (byte) count[1]);
        }
        isRefused(set, what, packet(r, someAnswers(r), hintBytes));
    }

    /**
     * "LOW is r modulo 2 g2, in -g2 + 1 .. g2; if r - LOW is q - 1: HIGH 0, LOW less by 1", and "at a HINT HIGH is one
     * more (LOW above 0) or one less, modulo M".
     */
    private static void highsAndLows(int set) {
        Reference r = new Reference(set);
        int g2 = r.g2;
        int m = r.highs;
        Check.same("M of set " + set, m, set == 0 ? 44 : 16);
        int lastStep = 2 * g2 * (m - 1);
        // What is rounded, LOW, HIGH, HIGH at a hint.
        int[][] rows = {
            {0, 0, 0, m - 1}, {1, 1, 0, 1}, {g2, g2, 0, 1}, {g2 + 1, 1 - g2, 1, 0}, {2 * g2 - 1, -1, 1, 0},
            {2 * g2, 0, 1, 0}, {2 * g2 + 1, 1, 1, 2}, {3 * g2, g2, 1, 2}, {3 * g2 + 1, 1 - g2, 2, 1},
            {lastStep - 1, -1, m - 1, m - 2}, {lastStep, 0, m - 1, m - 2}, {lastStep + 1, 1, m - 1, 0},
            {Reference.Q - 1 - g2, g2, m - 1, 0}, {Reference.Q - g2, -g2, 0, m - 1}, {Reference.Q - 2, -2, 0, m - 1},
            {Reference.Q - 1, -1, 0, m - 1}
        };
        for (int[] row : rows) {
            Check.same("set " + set + ", LOW of " + row[0], r.low(row[0]), row[1]);
            Check.same("set " + set + ", HIGH of " + row[0], r.high(row[0]), row[2]);
            Check.same("set " + set + ", HIGH at a hint of " + row[0], r.hintedHigh(row[0]), row[3]);
            roundsAsDue(set, row[0]);
        }
    }

    /** A packet for which the last X is this value at one place, with and without a hint there. */
    private static void roundsAsDue(int set, int value) {
        Reference r = new Reference(set);
        int[] row = Reference.unntt(r.matrix(openKey(r))[r.k - 1][r.l - 1]);
        int place = 0;
        int factor = over(value, row[0]);
        while (Math.abs(Reference.signed(factor)) >= r.g1 - r.bound) {
            place++;
            factor = over(value, row[place]);
        }
        int[][] answers = oneAnswer(r, 256 * (r.l - 1), factor);
        byte[] plain = packet(r, answers, new byte[r.w + r.k]);
        Check.same("X", r.images(openKey(r), plain)[r.k - 1][place], value);
        isTrue(set, "an X of " + value, plain);
        isTrue(set, "an X of " + value + " with a hint",
            packet(r, answers, r.packHints(only(r, r.k - 1, new int[] {place}))));
    }

    private static int over(int value, int divisor) {
        BigInteger q = BigInteger.valueOf(Reference.Q);
        return BigInteger.valueOf(divisor).modInverse(q).multiply(BigInteger.valueOf(value)).mod(q).intValue();
    }

    /** "It is true if H(..) is C": all of it. SHARED is what was found, whatever C is. */
    private static void eachByteOfTheChallengeCounts(int set) {
        Reference r = new Reference(set);
        Player x = new Player();
        x.load(Check.PUBLIC, openKey(r));
        x.load(Check.MESSAGE, MESSAGE);
        x.load(Check.PACKET, packet(r, someAnswers(r), new byte[r.w + r.k]));
        x.copy(Check.PACKET, Check.SPARE);
        x.resize(Check.SPARE, r.c);
        for (int i = 0; i < r.c; i++) {
            int bit = 1 << i % 8;
            x.alter(Check.PACKET, i, bit);
            Check.isTrue("set " + set + ", byte " + i + " of C", !x.dsaVerify(set, -1));
            Check.isTrue("set " + set + ", byte " + i + " of C: SHARED", x.same(Check.SHARED, Check.SPARE));
            x.alter(Check.PACKET, i, bit);
        }
        Check.isTrue("set " + set + ", C again", x.dsaVerify(set, -1));
    }

    /** For a made key b plays a part: SHARED shows which it was. */
    private static void findsAsDue(int set, String what, byte[] challenge) {
        Reference r = new Reference(set);
        byte[] key = r.keys(Check.ramp(32, 0, 1)).publicKey();
        byte[] packet = Reference.join(challenge, Reference.packAll(new int[r.l][256], r.g1, r.maskBits),
            new byte[r.w + r.k]);
        Player x = loaded(key, packet);
        Check.isTrue(what + " is false", !x.dsaVerify(set, -1));
        Check.bytes(what + ": SHARED", x.read(Check.SHARED), r.compared(key, MESSAGE, packet));
    }

    /** "BYTES are taken until one, j, is not above i": i itself is taken, i + 1 is not. */
    private static void ballsThatTakeJustIn(int set) {
        Reference r = new Reference(set);
        int found = 0;
        for (int number = 0; found < 3 && number < 1000; number++) {
            Reference.Ball ball = r.ball(Check.first(r.c, number));
            if (ball.justIn && ball.justOut) {
                found++;
                findsAsDue(set, "set " + set + ", ball " + number, Check.first(r.c, number));
            }
        }
        Check.same("balls with both in set " + set, found, 3);
    }

    private static void farthestBall(int set) {
        Reference r = new Reference(set);
        byte[] challenge = Check.first(r.c, FARTHEST_BALLS[set][0]);
        Check.same("bytes of the farthest ball in set " + set, r.ball(challenge).taken, FARTHEST_BALLS[set][1]);
        findsAsDue(set, "set " + set + ", the farthest ball", challenge);
    }

    /** T1 is 1023 all over, the most that ten bits hold: 8192 T1 is q - 1. */
    private static void keyOfOnes(int set) {
        Reference r = new Reference(set);
        byte[] key = Check.ramp(r.publicSize, 255, 0);
        byte[] packet = Reference.join(Check.ramp(r.c, 255, 0), Reference.packAll(someAnswers(r), r.g1, r.maskBits),
            r.packHints(only(r, 0, rising(r.w, 0))));
        Player x = loaded(key, packet);
        Check.isTrue("a key of ones is false", !x.dsaVerify(set, -1));
        Check.bytes("a key of ones: SHARED", x.read(Check.SHARED), r.compared(key, MESSAGE, packet));
    }
}
