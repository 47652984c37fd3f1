import java.util.Arrays;
import java.util.List;
import java.util.Random;

/**
 * Promise 11: the limits of SIGN, from both sides. Each row is a message that a search has found: at one of its tries
 * something stands just at its limit. Out: nothing else is wrong with that try, and it is not taken. In: it is taken.
 * (A message is its number in four bytes. The first two are 0, as how 0 has them with no CONTEXT: so OpenSSL could be
 * asked to verify what is signed with a made key, and it did.)
 *
 * Boundaries that no run of calls reaches, or none that is known:
 * "a |b T0 i| is g2 or more" in sets 1 and 2: T0 is 4096 at most, and t coefficients of b are not 0, so |b T0 i| is at
 * most 49 * 4096 = 200704 or 60 * 4096 = 245760, and g2 is 261888.
 * "at most 121, else ArithmeticException" of BALL: VerifyLimitsTest says why, LoweredLimitsTest goes over it.
 * "After 814 of them: ArithmeticException" in set 1, just inside and just outside: even a T0 as far out as can be lets
 * one try in some 75 hold there, so only one run in some millions would have try 814 as the first that holds, and none
 * was met. A SECRET for which no try holds is known and tested; in sets 0 and 2 both sides are. LoweredLimitsTest has
 * both sides in all sets, with fewer tries.
 */
public final class SignLimitsTest {
    private static final int ANSWER = 0;
    private static final int LOW = 1;
    private static final int LESS_LOW = 2;
    private static final int DROP = 3;
    private static final int HINTS = 4;
    private static final String[] NAMES = {"|Z i|", "|LOW of X i|", "|LOW of X i|, less by 1", "|b T0 i|", "hints"};
    private static final int IN = 0;
    private static final int OUT = 1;

    /** What stands at its limit, with which sign, in or out, set, message, which try, of how many. */
    private static final int[][] EDGES = {
        {ANSWER, 1, OUT, 0, 170, 3, 7}, {ANSWER, 1, OUT, 1, 1174, 5, 10}, {ANSWER, 1, OUT, 2, 550, 3, 9},
        {ANSWER, -1, OUT, 0, 255, 8, 24}, {ANSWER, -1, OUT, 1, 164, 1, 18}, {ANSWER, -1, OUT, 2, 670, 2, 3},
        {ANSWER, 1, IN, 0, 22, 4, 4}, {ANSWER, 1, IN, 1, 2721, 3, 3}, {ANSWER, 1, IN, 2, 918, 12, 12},
        {ANSWER, -1, IN, 0, 9, 3, 3}, {ANSWER, -1, IN, 1, 280, 4, 4}, {ANSWER, -1, IN, 2, 174, 5, 5},
        {LOW, 1, OUT, 0, 721, 1, 5}, {LOW, 1, OUT, 1, 267, 17, 18}, {LOW, 1, OUT, 2, 203, 1, 2},
        {LOW, -1, OUT, 0, 22, 3, 4}, {LOW, -1, OUT, 1, 62, 8, 21}, {LOW, -1, OUT, 2, 224, 13, 19},
        {LOW, 1, IN, 0, 278, 4, 4}, {LOW, 1, IN, 1, 1114, 4, 4}, {LOW, 1, IN, 2, 113, 6, 6},
        {LOW, -1, IN, 0, 77, 1, 1}, {LOW, -1, IN, 1, 177, 12, 12}, {LOW, -1, IN, 2, 361, 3, 3},
        {LESS_LOW, -1, OUT, 0, 13984, 7, 10}, {LESS_LOW, -1, OUT, 1, 2684, 5, 6}, {LESS_LOW, -1, OUT, 2, 802, 2, 4},
        {LESS_LOW, -1, IN, 0, 7380, 3, 3}, {LESS_LOW, -1, IN, 1, 277, 10, 10}, {LESS_LOW, -1, IN, 2, 309, 3, 3},
        {DROP, 1, OUT, 0, 98, 1, 3}, {DROP, -1, OUT, 0, 996, 5, 13},
        {DROP, 1, IN, 0, 687, 1, 1}, {DROP, -1, IN, 0, 519, 4, 4},
        {HINTS, 1, OUT, 0, 267, 10, 18}, {HINTS, 1, OUT, 1, 70, 23, 24}, {HINTS, 1, OUT, 2, 463, 4, 6},
        {HINTS, 1, IN, 0, 415, 6, 6}, {HINTS, 1, IN, 1, 532, 14, 14}, {HINTS, 1, IN, 2, 835, 1, 1}
    };

    /** Set, message: the first polynomial has a hint at its first place, the last one at its last. */
    private static final int[][] FARTHEST_PLACES = {{0, 216}, {1, 1555}, {2, 682}};

    /** Set, message: a polynomial has no hints, but others have. */
    private static final int[][] HINTS_OF_SOME = {{1, 96}, {2, 139}};

    public static void main(String[] args) {
        for (int[] row : EDGES) {
            edge(row);
        }
        for (int[] row : FARTHEST_PLACES) {
            hintsAtTheFarthestPlaces(row[0], row[1]);
        }
        for (int[] row : HINTS_OF_SOME) {
            hintsOfSome(row[0], row[1]);
        }
        for (int set = 0; set < 3; set++) {
            noHints(set);
        }
        theLastTryHolds();
        noTryHolds();
        afterAllTriesFailed();
        Check.finish("SignLimitsTest");
    }

    /** The first number that is too much. */
    private static int limit(Reference r, int quantity) {
        return switch (quantity) {
            case ANSWER -> r.g1 - r.bound;
            case DROP -> r.g2;
            case HINTS -> r.w + 1;
            default -> r.g2 - r.bound;
        };
    }

    private static int value(Reference.Try one, int quantity, int sign) {
        return switch (quantity) {
            case ANSWER -> sign > 0 ? one.mostAnswer : -one.leastAnswer;
            case DROP -> sign > 0 ? one.mostDrop : -one.leastDrop;
            case HINTS -> one.hintCount;
            default -> sign > 0 ? one.mostLow : -one.leastLow;
        };
    }

    /** How many of all the limits a try is over, each sign for itself. */
    private static int faults(Reference r, Reference.Try one) {
        int faults = one.hintCount > r.w ? 1 : 0;
        for (int quantity : new int[] {ANSWER, LOW, DROP}) {
            for (int sign = -1; sign <= 1; sign += 2) {
                faults += value(one, quantity, sign) >= limit(r, quantity) ? 1 : 0;
            }
        }
        return faults;
    }

    private static void edge(int[] row) {
        int quantity = row[0];
        int set = row[3];
        Reference r = new Reference(set);
        byte[] secret = quantity == DROP ? farSecret() : r.keys(Check.noise(32, 1)).secretKey();
        byte[] message = Check.first(4, row[4]);
        String what = "set " + set + ", message " + row[4] + ": " + NAMES[quantity];
        List<Reference.Try> tries = r.sign(secret, message, new byte[32]);
        Reference.Try one = tries.get(row[5] - 1);
        Check.same(what, value(one, quantity, row[1]), limit(r, quantity) - 1 + row[2]);
        Check.same(what + ": faults of that try", faults(r, one), row[2]);
        if (quantity == LESS_LOW) {
            // Were it not less by 1, it would be one farther in.
            Check.same(what + ": before that", -one.leastPlainLow, limit(r, quantity) - 2 + row[2]);
        }
        signsAsDue(what, set, secret, message, tries);
        Check.same(what + ": tries", tries.size(), row[6]);
    }

    private static Player signsAsDue(String what, int set, byte[] secret, byte[] message, List<Reference.Try> tries) {
        Player x = new Player();
        x.load(Check.SECRET, secret);
        x.load(Check.MESSAGE, message);
        Check.same(what + ": tries", x.dsaSign(set, -1), tries.size());
        Check.bytes(what + ": PACKET", x.read(Check.PACKET), tries.get(tries.size() - 1).signature);
        return x;
    }

    /** A made SECRET, but with this T0. */
    private static byte[] withDrops(int set, int[][] drops) {
        byte[] secret = new Reference(set).keys(Check.noise(32, 1)).secretKey();
        byte[] packed = Reference.packAll(drops, 4096, 13);
        System.arraycopy(packed, 0, secret, secret.length - packed.length, packed.length);
        return secret;
    }

    /** T0 is so far out in the first polynomial of set 0 that b T0 often comes near to g2; elsewhere it is 0. */
    private static byte[] farSecret() {
        Random random = new Random(1);
        int[][] drops = new int[4][256];
        for (int j = 0; j < 256; j++) {
            int far = random.nextInt(4) == 0 ? 3810 : 3809;
            drops[0][j] = random.nextBoolean() ? far : Reference.Q - far;
        }
        return withDrops(0, drops);
    }

    private static void hintsAtTheFarthestPlaces(int set, int number) {
        Reference r = new Reference(set);
        byte[] secret = r.keys(Check.noise(32, 1)).secretKey();
        List<Reference.Try> tries = r.sign(secret, Check.first(4, number), new byte[32]);
        int[][] hints = tries.get(tries.size() - 1).hints;
        Check.same("the first hint", hints[0][0], 0);
        Check.same("the last hint", hints[r.k - 1][hints[r.k - 1].length - 1], 255);
        byte[] packet = signsAsDue("hints at places 0 and 255, set " + set, set, secret, Check.first(4, number), tries)
            .read(Check.PACKET);
        Check.same("the first place", packet[r.packetSize - r.w - r.k], (byte) 0);
        int count = packet[r.packetSize - 1] & 255;
        Check.same("the last place", packet[r.packetSize - r.w - r.k + count - 1], (byte) 255);
    }

    private static void hintsOfSome(int set, int number) {
        Reference r = new Reference(set);
        byte[] secret = r.keys(Check.noise(32, 1)).secretKey();
        List<Reference.Try> tries = r.sign(secret, Check.first(4, number), new byte[32]);
        int empty = 0;
        for (int[] hints : tries.get(tries.size() - 1).hints) {
            empty += hints.length == 0 ? 1 : 0;
        }
        Check.isTrue("some have no hints", empty > 0 && empty < r.k);
        signsAsDue("some have no hints, set " + set, set, secret, Check.first(4, number), tries);
    }

    /** With a T0 of 0 there are no hints: "zeros", and a count of 0 for each polynomial. */
    private static void noHints(int set) {
        Reference r = new Reference(set);
        byte[] secret = withDrops(set, new int[r.k][256]);
        List<Reference.Try> tries = r.sign(secret, new byte[0], new byte[32]);
        Player x = signsAsDue("no hints, set " + set, set, secret, new byte[0], tries);
        byte[] packet = x.read(Check.PACKET);
        Check.bytes("no hints, set " + set, Reference.part(packet, r.packetSize - r.w - r.k, r.w + r.k),
            new byte[r.w + r.k]);
    }

    /** A SECRET of noise whose T0 is as far out as can be, either way: there are nearly always too many hints. */
    private static byte[] wildSecret(int set, long seed) {
        int[] rows = {4, 6, 8};
        int start = Check.SECRET_SIZES[set] - 416 * rows[set];
        byte[] secret = new byte[Check.SECRET_SIZES[set]];
        Random random = new Random(seed);
        random.nextBytes(secret);
        Arrays.fill(secret, start, secret.length, (byte) 0);
        for (int i = 0; i < 256 * rows[set]; i++) {
            int packed = random.nextBoolean() ? 8191 : 0;
            for (int j = 0; j < 13; j++) {
                int bit = 13 * i + j;
                secret[start + bit / 8] |= (byte) ((packed >> j & 1) << bit % 8);
            }
        }
        return secret;
    }

    private static Player wild(int set, long seed) {
        Player x = new Player();
        x.load(Check.SECRET, wildSecret(set, seed));
        x.load(Check.PACKET, Check.noise(100, 9));
        return x;
    }

    /** Try 814 is the last: here it holds. */
    private static void theLastTryHolds() {
        Player x = wild(0, 3061);
        Check.same("set 0, try 814 holds", x.dsaSign(0, -1), 814);
        Check.same("set 0, try 814 holds: PACKET", Check.mark(x.read(Check.PACKET)), "4e9d738515ef9ef3");
        Player y = wild(2, 651);
        Check.same("set 2, try 814 holds", y.dsaSign(2, -1), 814);
        Check.same("set 2, try 814 holds: PACKET", Check.mark(y.read(Check.PACKET)), "d670700f527e1648");
        Player z = wild(2, 9);
        Check.same("set 2, try 796 holds", z.dsaSign(2, -1), 796);
        Check.same("set 2, try 796 holds: PACKET", Check.mark(z.read(Check.PACKET)), "f6191002f0373632");
    }

    /** "After 814 of them: ArithmeticException", even if the next would hold. */
    private static void noTryHolds() {
        Player x = wild(0, 12280);
        Check.refuses(x, "set 0, try 815 would hold", () -> x.dsaSign(0, -1), ArithmeticException.class);
        Player y = wild(2, 49);
        Check.refuses(y, "set 2, try 815 would hold", () -> y.dsaSign(2, -1), ArithmeticException.class);
        Player z = wild(1, 950209);
        Check.refuses(z, "set 1, no try holds", () -> z.dsaSign(1, -1), ArithmeticException.class);
        Player u = wild(0, 1);
        Check.refuses(u, "set 0, no try holds", () -> u.dsaSign(0, -1), ArithmeticException.class);
    }

    /** The object is as good as before. */
    private static void afterAllTriesFailed() {
        Player x = wild(0, 1);
        Check.same("no try holds", Check.answer(() -> x.dsaSign(0, -1)), "ArithmeticException");
        x.load(Check.SECRET, Check.noise(Check.SECRET_SIZES[0], 5));
        x.load(Check.MESSAGE, new byte[] {'a', 'b', 'c'});
        Check.same("sign after that", x.dsaSign(0, -1), 3);
        Check.same("sign after that: PACKET", Check.mark(x.read(Check.PACKET)), "9a6b23e1422843db");
    }
}
