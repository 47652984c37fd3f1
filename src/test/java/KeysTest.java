/**
 * Promise 10: dsaKeys, with SAMPLE, SMALL and KEYS. The marks are of an implementation in Python that agrees with
 * OpenSSL.
 *
 * Two boundaries no known run of calls reaches, for what SHAKE gives can't be chosen:
 * "at most 298 times, else ArithmeticException" of SAMPLE: 43 of 298 numbers would have to be q or more, each with a
 * chance of 1 in 1024: about 1 polynomial in 2^256.
 * "(at most 481, else ArithmeticException)" of SMALL: fewer than 256 of 962 four bits would have to be below 9 (e 4):
 * about 1 polynomial in 2^256, too; or below 15 (e 2): 1 in 2^2054.
 * What is tested here is the farthest that a search of a million polynomials or more has found; LoweredLimitsTest goes
 * over the limits themselves.
 */
public final class KeysTest {
    private static final String[][] MARKS = {
        {"eb4e7302842153b0", "0f9086044d77b6d6", "62c4f1b3164db7fa", "6433074c5ffc9e0f", "9f107644c1084526",
            "04bf6b9f579166a6", "f3cbba7e447ce3d7", "75112a6c424d2e07", "2ec1f0388b2692af", "7b0e5800289d18e0"},
        {"085ba380ff386dd5", "cfcb5e7edf4348f7", "accc50ec0bce6148", "11681dc1c20ee8ab", "d666806e11cee19a",
            "9f1e24f47795fe50", "9241a8f6a150c023", "39b587836d5f4c05", "0936ae00650efd8e", "9cf18efbec72a55c"},
        {"1d4a461707fc50a7", "370d670bcc5cac39", "ecc28bd43ae792d5", "77254446791dbd4e", "91dc389cfaa01470",
            "764d3e223ed90c07", "828c1e2e3173efc3", "53b3d69f61ce1f15", "d02c1d434ffcb315", "69d8e036c3fe83d3"}
    };

    /** Set, number that RANDOM ends with, i and j of A[i, j], which triple of it, what that is. */
    private static final int[][] TRIPLES = {
        {0, 5191, 3, 1, 70, Reference.Q - 1}, {0, 2674, 0, 1, 250, Reference.Q}, {0, 24, 2, 1, 97, (1 << 23) - 1},
        {1, 389, 4, 0, 169, Reference.Q - 1}, {1, 924, 1, 0, 78, Reference.Q}, {1, 3252, 1, 2, 51, (1 << 23) - 1},
        {2, 2067, 3, 4, 138, Reference.Q - 1}, {2, 798, 2, 2, 244, Reference.Q}, {2, 114, 1, 1, 84, (1 << 23) - 1}
    };

    /** Set, number, i and j of A[i, j], how many triples are taken for it. */
    private static final int[][] MOST_TRIPLES = {{0, 1740, 0, 3, 261}, {1, 369, 2, 4, 261}, {2, 41968, 3, 5, 262}};

    /** Set, number, which of S and E, how many bytes are taken for it: 136 are what SHAKE256 gives at once. */
    private static final int[][] SMALL_BYTES = {
        {0, 0, 1, 136}, {0, 0, 0, 137}, {0, 91579, 5, 149}, {1, 119868, 6, 287}, {2, 0, 0, 136}, {2, 0, 10, 137},
        {2, 14941, 14, 150}
    };

    /** Set, number, polynomial and place of T, and T1 and T0 there: 0 and q - 1, and the edges of T0. */
    private static final int[][] SPLITS = {
        {0, 10577, 0, 43, 0, 0}, {0, 6451, 0, 248, 1023, 0}, {0, 2983, 1, 90, 1023, -4095},
        {1, 750, 2, 87, 0, 0}, {1, 3305, 2, 48, 1023, 0}, {1, 8203, 4, 168, 1023, -4095},
        {2, 5441, 1, 32, 0, 0}, {2, 4439, 6, 170, 1023, 0}, {2, 1144, 6, 35, 1023, -4095}
    };

    /** Set, number, polynomial and place of T at which T0 is 4096 or -4095. */
    private static final int[][] SPLIT_EDGES = {
        {0, 9, 1, 7, 4096}, {0, 17, 2, 67, -4095}, {1, 21, 3, 123, 4096}, {1, 2, 5, 73, -4095}, {2, 2, 2, 157, 4096},
        {2, 3, 0, 235, -4095}
    };

    public static void main(String[] args) {
        for (int set = 0; set < 3; set++) {
            knownKeys(set);
            smallTakesAndLeaves(set);
        }
        for (int[] row : TRIPLES) {
            tripleAtTheLimit(row);
        }
        for (int[] row : MOST_TRIPLES) {
            mostTriples(row);
        }
        for (int[] row : SMALL_BYTES) {
            smallBytes(row);
        }
        for (int[] row : SPLITS) {
            split(row[0], row[1], row[2], row[3], row[4], row[5]);
        }
        for (int[] row : SPLIT_EDGES) {
            splitEdge(row);
        }
        onlyTheKeysChange();
        keysOfAllSetsAfterOneAnother();
        setsOutOfRange();
        randomsOfOtherSizes();
        Check.finish("KeysTest");
    }

    private static void knownKeys(int set) {
        byte[][] randoms = {new byte[32], Check.ramp(32, 255, 0), Check.ramp(32, 0, 1), Check.noise(32, 1),
            Check.noise(32, 2)};
        for (int i = 0; i < randoms.length; i++) {
            Player x = madeAsDue(set, randoms[i]);
            String what = "keys of set " + set + ", random " + i;
            Check.same(what + ": PUBLIC", Check.mark(x.read(Check.PUBLIC)), MARKS[set][2 * i]);
            Check.same(what + ": SECRET", Check.mark(x.read(Check.SECRET)), MARKS[set][2 * i + 1]);
        }
    }

    /** "PUBLIC is P, SECRET D. Answers the length of D." */
    private static Player madeAsDue(int set, byte[] random) {
        Reference.Keys due = new Reference(set).keys(random);
        String what = "keys of set " + set + " of " + Check.hex(random);
        Player x = new Player();
        x.load(Check.RANDOM, random);
        Check.same(what, x.dsaKeys(set), Check.SECRET_SIZES[set]);
        Check.same(what + ": PUBLIC has", x.length(Check.PUBLIC), Check.PUBLIC_SIZES[set]);
        Check.same(what + ": SECRET has", x.length(Check.SECRET), Check.SECRET_SIZES[set]);
        Check.bytes(what + ": PUBLIC", x.read(Check.PUBLIC), due.publicKey());
        Check.bytes(what + ": SECRET", x.read(Check.SECRET), due.secretKey());
        return x;
    }

    /** "each that is below q is the next coefficient": q - 1 is one, q is none, nor is the greatest. */
    private static void tripleAtTheLimit(int[] row) {
        byte[] random = Check.last(32, row[1]);
        byte[] stream = Reference.sampleStream(new Reference(row[0]).seeds(random), row[2], row[3]);
        String what = "set " + row[0] + ", number " + row[1];
        Check.same(what + " has the triple", Reference.triple(stream, row[4]), row[5]);
        madeAsDue(row[0], random);
    }

    private static void mostTriples(int[] row) {
        byte[] random = Check.last(32, row[1]);
        byte[] stream = Reference.sampleStream(new Reference(row[0]).seeds(random), row[2], row[3]);
        Check.same("set " + row[0] + ", number " + row[1] + " takes triples",
            Reference.sample(stream, new int[256]), row[4]);
        madeAsDue(row[0], random);
    }

    private static byte[] smallStream(Reference r, byte[] random, int number) {
        return Reference.smallStream(Reference.part(r.seeds(random), 32, 64), number);
    }

    /** "e 2: below 15: 2 - v % 5; e 4: below 9: 4 - v; others give none": both sides of that are among those taken. */
    private static void smallTakesAndLeaves(int set) {
        Reference r = new Reference(set);
        byte[] random = Check.last(32, 0);
        byte[] stream = smallStream(r, random, 0);
        int[] due = new int[256];
        int taken = r.small(stream, due);
        boolean[] seen = new boolean[16];
        for (int i = 0; i < taken - 1; i++) {
            seen[stream[i] & 15] = true;
            seen[stream[i] >> 4 & 15] = true;
        }
        int limit = set == 1 ? 9 : 15;
        Check.isTrue("set " + set + " sees just in and just out", seen[limit - 1] && seen[limit] && seen[0]);
        Player x = madeAsDue(set, random);
        int[] got = Reference.unpack(x.read(Check.SECRET), 128, r.e, r.smallBits);
        int least = 0;
        int most = 0;
        for (int j = 0; j < 256; j++) {
            Check.same("set " + set + ", S 0 at " + j, Reference.signed(got[j]), Reference.signed(due[j]));
            least = Math.min(least, Reference.signed(got[j]));
            most = Math.max(most, Reference.signed(got[j]));
        }
        Check.same("set " + set + ", the least of S 0", least, -r.e);
        Check.same("set " + set + ", the greatest of S 0", most, r.e);
    }

    private static void smallBytes(int[] row) {
        Reference r = new Reference(row[0]);
        byte[] random = Check.last(32, row[1]);
        Check.same("set " + row[0] + ", number " + row[1] + " takes bytes",
            r.small(smallStream(r, random, row[2]), new int[256]), row[3]);
        madeAsDue(row[0], random);
    }

    /** "T i = 8192 T1 i + T0 i, coefficient by coefficient, T0 in -4095 .. 4096". */
    private static void split(int set, int number, int i, int j, int top, int drop) {
        Reference r = new Reference(set);
        byte[] random = Check.last(32, number);
        String what = "set " + set + ", number " + number;
        Check.same(what + ": T", r.keys(random).images()[i][j], 8192 * top + drop);
        Player x = madeAsDue(set, random);
        Check.same(what + ": T1", Reference.unbits(x.read(Check.PUBLIC), 32 + 320 * i, 10)[j], top);
        int start = r.secretSize - 416 * r.k;
        Check.same(what + ": T0", 4096 - Reference.unbits(x.read(Check.SECRET), start + 416 * i, 13)[j], drop);
    }

    private static void splitEdge(int[] row) {
        int value = new Reference(row[0]).keys(Check.last(32, row[1])).images()[row[2]][row[3]];
        split(row[0], row[1], row[2], row[3], (value - row[4]) / 8192, row[4]);
    }

    private static void onlyTheKeysChange() {
        Player x = new Player();
        for (int slot = 0; slot < Check.SLOTS; slot++) {
            x.load(slot, Check.noise(slot == 0 ? 32 : 100 + slot, slot));
        }
        // What was longer before must not show, either.
        x.resize(Check.PUBLIC, 8192);
        x.resize(Check.SECRET, 8192);
        x.feed(1, 2, 3, 4, 5);
        byte[][] due = x.state().clone();
        Reference.Keys keys = new Reference(1).keys(Check.noise(32, 0));
        x.dsaKeys(1);
        due[Check.PUBLIC] = keys.publicKey();
        due[Check.SECRET] = keys.secretKey();
        for (int i = 0; i < due.length; i++) {
            Check.bytes("row " + i + " after dsaKeys", x.state()[i], due[i]);
        }
    }

    private static void keysOfAllSetsAfterOneAnother() {
        Player x = new Player();
        x.load(Check.RANDOM, Check.noise(32, 1));
        for (int set : new int[] {2, 0, 1, 0, 2}) {
            Check.same("keys again", x.dsaKeys(set), Check.SECRET_SIZES[set]);
            Check.same("keys again: PUBLIC", Check.mark(x.read(Check.PUBLIC)), MARKS[set][6]);
            Check.same("keys again: SECRET", Check.mark(x.read(Check.SECRET)), MARKS[set][7]);
        }
    }

    /** "set 0 .. 2": and it comes before RANDOM. */
    private static void setsOutOfRange() {
        Player x = new Player();
        x.feed(1, 2, 3, 4, 5);
        for (int set : new int[] {-1, 3, Check.LEAST, Check.GREATEST}) {
            Check.refuses(x, "keys of set " + set + ", no RANDOM", () -> x.dsaKeys(set),
                IllegalArgumentException.class);
        }
        x.end(0, 20);
        x.resize(Check.RANDOM, 32);
        for (int set : new int[] {-1, 3, Check.LEAST, Check.GREATEST}) {
            Check.refuses(x, "keys of set " + set, () -> x.dsaKeys(set), IllegalArgumentException.class);
        }
    }

    /** "RANDOM has not 32 BYTES: IllegalStateException." */
    private static void randomsOfOtherSizes() {
        Player x = new Player();
        x.load(Check.RANDOM, Check.noise(32, 1));
        x.dsaKeys(0);
        x.feed(1, 2, 3, 4, 5);
        for (int n : new int[] {0, 1, 31, 33, 64, 8191, 8192}) {
            x.resize(Check.RANDOM, n);
            for (int set = 0; set < 3; set++) {
                int s = set;
                Check.refuses(x, "keys of " + n + " bytes", () -> x.dsaKeys(s), IllegalStateException.class);
            }
        }
        x.resize(Check.RANDOM, 32);
        // No other slot has a size that dsaKeys asks for.
        x.resize(Check.CONTEXT, 8192);
        Check.same("keys of 32 bytes", x.dsaKeys(2), Check.SECRET_SIZES[2]);
    }
}
