import java.util.Arrays;

/** Promise 12: dsaVerify. The marks are of an implementation in Python that agrees with OpenSSL. */
public final class VerifyTest {
    private static final int[] ROWS = {4, 6, 8};
    private static final int[] COLUMNS = {4, 5, 7};
    private static final int[] MOST_HINTS = {80, 55, 75};
    private static final int[] MASK_BITS = {18, 20, 20};
    private static final int[] MASKS = {1 << 17, 1 << 19, 1 << 19};
    private static final int[] BOUNDS = {78, 196, 120};

    /** For each set the marks of a signature, and of SHARED after one thing has been changed. */
    private static final String[][] CHANGED = {
        {"c0921565a0a724b2", "f33ae49e24b81916", "76a09bb0bcd34b7f", "6e06d69b8166b257",
            "8190e2402c477d84", "4ed0bf68609ed294", "3e4063e92c2bc8dc", "c338f5d4c9b6ba96"},
        {"87602fbeef598158", "055abab924d02892", "bc5f1a3f77d46c95", "7d41efc99ad2264e",
            "b5ea45c30f323af0", "1c993a9b1e73b06b", "beb241b49dadee7a", "7c40ba0b025b3db4"},
        {"8c819337dc2ceed2", "1745d0bb28d9d36c", "31e1551664c181d9", "869d6f5de9eeb18d",
            "cf540190a01eecc4", "c7d8e64c30528a93", "d4f843a1dad647b4", "51f50aa3f9284c59"}
    };

    /** Set, T1 at place 0 of each polynomial, marks of SHARED with as many hints as there may be and with none. */
    private static final Object[][] PLAIN_KEYS = {
        {0, 0, "a41768ca68e13eda", "163e97f10a20ccd6"},
        {0, 1, "8244c284db99a6aa", "a09cf71d74131a1e"},
        {0, 1023, "44fc181fd6283a30", "8e1ce04682d2696f"},
        {0, 93, "60a3170fe4fc1f8d", "04524cd506f30f09"},
        {0, 512, "0815734f7fb3e4c6", "6bf6b052187189e6"},
        {1, 0, "c4b7fced892facbd", "6a58b7eece713e15"},
        {1, 1, "837d98ab74b166a6", "94e83ad3c7d9de04"},
        {1, 1023, "0f157c81e71cdbac", "9742da68e4947db3"},
        {1, 93, "ab96b7e77174617b", "5dc1cf721e6825c8"},
        {1, 512, "c1d4bc687c062e16", "de909e133b5a3867"},
        {2, 0, "d8a16410754b5019", "83f3b8a423cb6e34"},
        {2, 1, "456d018a8e0bbb95", "67488d569add8a44"},
        {2, 1023, "f913db3392d51976", "601294f1941c6670"},
        {2, 93, "71c0efc14a6f253c", "10defc35563c2685"},
        {2, 512, "5e00955ab66dde41", "dc172235fe34b3c2"}
    };

    /** Where LOW is 0, g2 or 1 - g2: set, challenge, polynomial, place, marks of SHARED without and with a hint. */
    private static final Object[][] LOW_EDGES = {
        {0, 98, 3, 166, "269a350ca786a06d", "fa79f9dc0d8e4af8"},
        {0, 56, 2, 164, "8aac68ced4b2d410", "09d99f1ae108089a"},
        {0, 167, 2, 250, "71e785646ffee30e", "4c97345b2b3e9eb4"},
        {1, 238, 1, 54, "da9b77cf3a2ebc14", "ace1cdc79c58b02e"},
        {1, 58, 0, 181, "5eb3f3b2f7a2a9ad", "1a4cf25e07b09433"},
        {1, 29, 3, 42, "b0d7640657cfcac4", "4e717a60c674dcd9"},
        {2, 249, 2, 208, "51dd5b78e6f0d847", "9cb51c135a375589"},
        {2, 392, 3, 133, "e2abf50c6f592f9a", "4bb6b2712820c568"},
        {2, 96, 7, 185, "d97c0cf0136ba40c", "02279e61904b60cc"}
    };

    public static void main(String[] args) {
        for (int set = 0; set < 3; set++) {
            signedIsTrue(set);
            changedIsFalse(set);
            wrongSizes(set);
            wrongHints(set);
            hintsAtTheLimit(set);
            answersAtTheLimit(set);
            wrongKeys(set);
        }
        for (Object[] row : PLAIN_KEYS) {
            plainKey(row);
        }
        for (Object[] row : LOW_EDGES) {
            lowEdge(row);
        }
        contextIsNothingToHowMinusOne();
        wrongNumbers();
        wrongContexts();
        Check.finish("VerifyTest");
    }

    /** An object with a key, a message, a context and their signature. */
    private static ModuleSigner signed(int set) {
        ModuleSigner x = new ModuleSigner();
        Check.load(x, Check.RANDOM, Check.noise(32, 1));
        x.dsaKeys(set);
        x.resize(Check.RANDOM, 0);
        Check.load(x, Check.MESSAGE, Check.noise(50, 77));
        Check.load(x, Check.CONTEXT, Check.noise(7, 78));
        x.dsaSign(set, 0);
        // Neither of these may play a part.
        x.resize(Check.RANDOM, 5);
        x.resize(Check.SECRET, 9);
        return x;
    }

    private static void signedIsTrue(int set) {
        ModuleSigner x = signed(set);
        Check.same("the signature", Check.mark(x, Check.PACKET), CHANGED[set][0]);
        x.feed(1, 2, 3, 4, 5);
        String before = Check.state(x);
        Check.isTrue("verify, set " + set, x.dsaVerify(set, 0));
        x.copy(Check.PACKET, Check.SPARE);
        x.resize(Check.SPARE, Check.CHALLENGE_SIZES[set]);
        Check.isTrue("SHARED is the challenge", x.same(Check.SHARED, Check.SPARE));
        x.resize(Check.SHARED, 0);
        x.resize(Check.SPARE, 0);
        Check.isTrue("nothing else changes", before.equals(Check.state(x)));
        Check.same("the tape stays", x.feed(1, 2, 3, 4, 5), 40);
        x.end(Check.SPARE, 0);
        Check.load(x, Check.SHARED, Check.noise(8192, 3));
        Check.isTrue("verify again, set " + set, x.dsaVerify(set, 0));
        Check.same("SHARED has", x.length(Check.SHARED), Check.CHALLENGE_SIZES[set]);
        Check.isTrue("how -1 over the same is not signed", !x.dsaVerify(set, -1));
    }

    private static void changedIsFalse(int set) {
        int challenge = Check.CHALLENGE_SIZES[set];
        // The third changes nothing: there it is how that differs.
        int[][] changes = {{Check.MESSAGE, 49, 1}, {Check.CONTEXT, 0, 128}, {Check.SPARE, 0, 0},
            {Check.PUBLIC, 31, 1}, {Check.PUBLIC, Check.PUBLIC_SIZES[set] - 1, 64},
            {Check.PACKET, challenge - 1, 1}, {Check.PACKET, challenge, 1}};
        ModuleSigner x = signed(set);
        x.resize(Check.SPARE, 1);
        for (int i = 0; i < changes.length; i++) {
            int[] change = changes[i];
            int how = change[0] == Check.SPARE ? -1 : 0;
            x.alter(change[0], change[1], change[2]);
            x.resize(Check.SHARED, 0);
            Check.isTrue("set " + set + ", change " + i + " is seen", !x.dsaVerify(set, how));
            Check.same("set " + set + ", change " + i, Check.mark(x, Check.SHARED), CHANGED[set][i + 1]);
            x.alter(change[0], change[1], change[2]);
        }
        Check.isTrue("all is back", x.dsaVerify(set, 0));
        x.resize(Check.MESSAGE, 51);
        Check.isTrue("a zero more is seen", !x.dsaVerify(set, 0));
        x.resize(Check.MESSAGE, 50);
        x.resize(Check.CONTEXT, 8);
        Check.isTrue("a zero more is seen", !x.dsaVerify(set, 0));
    }

    /** The answer is false before anything is compared: SHARED stays. */
    private static void staysFalse(ModuleSigner x, int set, String what) {
        Check.load(x, Check.SHARED, Check.noise(70, 70));
        String before = Check.state(x);
        Check.isTrue("set " + set + ", " + what + " is refused", !x.dsaVerify(set, 0) && !x.dsaVerify(set, -1));
        Check.isTrue("set " + set + ", " + what + " changes nothing", before.equals(Check.state(x)));
    }

    /** It comes so far that something is compared. */
    private static void compares(ModuleSigner x, int set, String what) {
        x.resize(Check.SHARED, 0);
        Check.isTrue("set " + set + ", " + what + " is false", !x.dsaVerify(set, 0));
        Check.same("set " + set + ", " + what + " is compared", x.length(Check.SHARED), Check.CHALLENGE_SIZES[set]);
    }

    private static void wrongSizes(int set) {
        int size = Check.PACKET_SIZES[set];
        for (int n : new int[] {0, 1, size - 1, size + 1, Check.PACKET_SIZES[(set + 1) % 3], 8192}) {
            ModuleSigner x = signed(set);
            x.resize(Check.PACKET, n);
            staysFalse(x, set, "a packet of " + n);
        }
    }

    /** A packet of a challenge, answers that are all the same bytes or all 0, and hints. */
    private static byte[] packet(int set, byte[] challenge, boolean zeros, int[][] hints) {
        byte[] packet = new byte[Check.PACKET_SIZES[set]];
        int start = Check.CHALLENGE_SIZES[set];
        int hintsStart = packet.length - MOST_HINTS[set] - ROWS[set];
        System.arraycopy(challenge, 0, packet, 0, challenge.length);
        Arrays.fill(packet, start, hintsStart, (byte) 0x55);
        for (int i = 0; zeros && i < 256 * COLUMNS[set]; i++) {
            setAnswer(packet, set, i, 0);
        }
        int count = 0;
        for (int i = 0; i < ROWS[set]; i++) {
            for (int place : hints[i]) {
                packet[hintsStart + count] = (byte) place;
                count++;
            }
            packet[hintsStart + MOST_HINTS[set] + i] = (byte) count;
        }
        return packet;
    }

    private static void setAnswer(byte[] packet, int set, int i, int value) {
        int bits = MASK_BITS[set];
        int packed = MASKS[set] - value;
        for (int j = 0; j < bits; j++) {
            int place = 8 * Check.CHALLENGE_SIZES[set] + bits * i + j;
            packet[place / 8] &= (byte) ~(1 << place % 8);
            packet[place / 8] |= (byte) ((packed >> j & 1) << place % 8);
        }
    }

    private static int[][] noHints(int set) {
        return new int[ROWS[set]][0];
    }

    /** As many hints as there may be. */
    private static int[][] allHints(int set) {
        int[][] hints = new int[ROWS[set]][];
        int each = MOST_HINTS[set] / ROWS[set];
        for (int i = 0; i < ROWS[set]; i++) {
            hints[i] = new int[i < ROWS[set] - 1 ? each : MOST_HINTS[set] - each * i];
            for (int j = 0; j < hints[i].length; j++) {
                hints[i][j] = i + 3 * j;
            }
        }
        return hints;
    }

    /** An object with a key and a packet that is well formed but signs nothing. */
    private static ModuleSigner forged(int set, int[][] hints) {
        ModuleSigner x = new ModuleSigner();
        Check.load(x, Check.RANDOM, Check.ramp(32, 0, 1));
        x.dsaKeys(set);
        Check.load(x, Check.PACKET, packet(set, new byte[Check.CHALLENGE_SIZES[set]], true, hints));
        return x;
    }

    private static void wrongHints(int set) {
        int most = MOST_HINTS[set];
        int last = ROWS[set] - 1;
        // Counts as pairs: from which polynomial on, how many. Then the places.
        refusesHints(set, "a last count above w", new int[][] {{last, most + 1}}, rising(most));
        // Here the places rise even over the first count, which stands behind them.
        refusesHints(set, "all counts above w", new int[][] {{0, most + 1}}, rising(most));
        refusesHints(set, "a last count of 255", new int[][] {{last, 255}}, rising(most));
        refusesHints(set, "a middle count above w", new int[][] {{1, most + 1}, {2, most}}, rising(most));
        refusesHints(set, "a count that falls", new int[][] {{last - 1, 5}, {last, 3}}, rising(3));
        refusesHints(set, "a count that falls by one", new int[][] {{0, 5}, {1, 4}}, rising(5));
        refusesHints(set, "a count that falls to 0", new int[][] {{0, 1}, {1, 0}}, rising(0));
        refusesHints(set, "a count that falls and rises", new int[][] {{0, 2}, {1, 1}, {2, 2}}, rising(2));
        refusesHints(set, "place 0 twice", new int[][] {{0, 2}}, new int[] {0, 0});
        refusesHints(set, "place 7 twice", new int[][] {{1, 2}}, new int[] {7, 7});
        refusesHints(set, "place 255 twice", new int[][] {{last, 3}}, new int[] {1, 255, 255});
        refusesHints(set, "places that fall", new int[][] {{0, 3}}, new int[] {7, 9, 8});
        refusesHints(set, "places that fall in the last", new int[][] {{0, 2}, {last, 4}}, new int[] {7, 9, 255, 127});
        refusesHints(set, "a byte behind none", new int[][] {}, new int[] {1});
        refusesHints(set, "a byte at the end of the places", new int[][] {}, lone(most, 255));
        refusesHints(set, "a byte behind the last place", new int[][] {{0, 2}}, new int[] {8, 9, 10});
        refusesHints(set, "a byte farther behind", new int[][] {{last, 1}}, lone(most, 1));
    }

    private static int[] rising(int n) {
        int[] places = new int[n];
        for (int i = 0; i < n; i++) {
            places[i] = i + 1;
        }
        return places;
    }

    /** Zeros with another value at their end. */
    private static int[] lone(int n, int value) {
        int[] places = new int[n];
        places[n - 1] = value;
        return places;
    }

    private static void refusesHints(int set, String what, int[][] counts, int[] places) {
        byte[] packet = packet(set, new byte[Check.CHALLENGE_SIZES[set]], true, noHints(set));
        int hintsStart = packet.length - MOST_HINTS[set] - ROWS[set];
        for (int i = 0; i < places.length; i++) {
            packet[hintsStart + i] = (byte) places[i];
        }
        for (int[] count : counts) {
            Arrays.fill(packet, hintsStart + MOST_HINTS[set] + count[0], packet.length, (byte) count[1]);
        }
        ModuleSigner x = forged(set, noHints(set));
        Check.load(x, Check.PACKET, packet);
        staysFalse(x, set, what);
    }

    private static void hintsAtTheLimit(int set) {
        compares(forged(set, noHints(set)), set, "no hint");
        compares(forged(set, allHints(set)), set, "w hints");
        int[][] hints = noHints(set);
        hints[0] = new int[] {0};
        compares(forged(set, hints), set, "a hint at place 0");
        hints = noHints(set);
        hints[ROWS[set] - 1] = new int[] {0, 255};
        compares(forged(set, hints), set, "hints at the first and last place of the last");
        // The places of one polynomial need not rise over those of the one before.
        hints = noHints(set);
        hints[0] = new int[] {254, 255};
        hints[1] = new int[] {0, 255};
        compares(forged(set, hints), set, "hints that start anew");
        hints = noHints(set);
        hints[1] = new int[MOST_HINTS[set]];
        for (int j = 0; j < MOST_HINTS[set]; j++) {
            hints[1][j] = 256 - MOST_HINTS[set] + j;
        }
        compares(forged(set, hints), set, "all hints in one");
    }

    private static void answersAtTheLimit(int set) {
        int limit = MASKS[set] - BOUNDS[set];
        int last = 256 * COLUMNS[set] - 1;
        for (int place : new int[] {0, 255, 256, last}) {
            for (int value : new int[] {limit, -limit, limit + 1, MASKS[set], 1 - MASKS[set]}) {
                ModuleSigner x = forged(set, noHints(set));
                byte[] packet = Check.read(x, Check.PACKET);
                setAnswer(packet, set, place, value);
                Check.load(x, Check.PACKET, packet);
                staysFalse(x, set, "an answer of " + value + " at " + place);
            }
            for (int value : new int[] {limit - 1, 1 - limit}) {
                ModuleSigner x = forged(set, noHints(set));
                byte[] packet = Check.read(x, Check.PACKET);
                setAnswer(packet, set, place, value);
                Check.load(x, Check.PACKET, packet);
                compares(x, set, "an answer of " + value + " at " + place);
            }
        }
    }

    /** With answers of 0 and a T1 of one number all that is rounded is that number, 0 or their negatives. */
    private static void plainKey(Object[] row) {
        int set = (int) row[0];
        int top = (int) row[1];
        byte[] key = new byte[Check.PUBLIC_SIZES[set]];
        System.arraycopy(Check.ramp(32, 0, 1), 0, key, 0, 32);
        for (int i = 0; i < ROWS[set]; i++) {
            key[32 + 320 * i] = (byte) top;
            key[33 + 320 * i] = (byte) (top >> 8);
        }
        ModuleSigner x = new ModuleSigner();
        Check.load(x, Check.PUBLIC, key);
        Check.load(x, Check.MESSAGE, new byte[] {'a', 'b', 'c'});
        byte[] challenge = Check.ramp(Check.CHALLENGE_SIZES[set], 1, 1);
        Check.load(x, Check.PACKET, packet(set, challenge, true, allHints(set)));
        Check.isTrue("plain key", !x.dsaVerify(set, -1));
        Check.same("plain key " + top + " of set " + set + ", hints", Check.mark(x, Check.SHARED), row[2]);
        Check.load(x, Check.PACKET, packet(set, challenge, true, noHints(set)));
        Check.isTrue("plain key", !x.dsaVerify(set, -1));
        Check.same("plain key " + top + " of set " + set + ", no hints", Check.mark(x, Check.SHARED), row[3]);
    }

    private static void lowEdge(Object[] row) {
        int set = (int) row[0];
        int number = (int) row[1];
        ModuleSigner x = forged(set, noHints(set));
        byte[] challenge = new byte[Check.CHALLENGE_SIZES[set]];
        challenge[2] = (byte) (number >> 8);
        challenge[3] = (byte) number;
        int[][] hints = noHints(set);
        Check.load(x, Check.PACKET, packet(set, challenge, false, hints));
        Check.isTrue("low edge", !x.dsaVerify(set, -1));
        Check.same("low edge of set " + set + ", challenge " + number, Check.mark(x, Check.SHARED), row[4]);
        hints[(int) row[2]] = new int[] {(int) row[3]};
        Check.load(x, Check.PACKET, packet(set, challenge, false, hints));
        Check.isTrue("low edge", !x.dsaVerify(set, -1));
        Check.same("low edge of set " + set + ", challenge " + number + ", hint", Check.mark(x, Check.SHARED), row[5]);
    }

    private static void contextIsNothingToHowMinusOne() {
        ModuleSigner x = signed(0);
        Check.load(x, Check.RANDOM, Check.noise(32, 1));
        x.dsaKeys(0);
        x.dsaSign(0, -1);
        for (int n : new int[] {0, 255, 256, 8192}) {
            x.resize(Check.CONTEXT, n);
            Check.isTrue("how -1 with a context of " + n, x.dsaVerify(0, -1));
        }
        x.resize(Check.CONTEXT, 0);
        Check.isTrue("how 0 is another message", !x.dsaVerify(0, 0));
    }

    private static void wrongNumbers() {
        ModuleSigner x = new ModuleSigner();
        // Everything else is wrong, too: the numbers come first.
        x.resize(Check.CONTEXT, 256);
        int[][] bad = {{-1, 0}, {3, 0}, {0, 1}, {0, -2}, {3, 1}, {Integer.MIN_VALUE, -1}, {Integer.MAX_VALUE, -1},
            {2, Integer.MIN_VALUE}, {2, Integer.MAX_VALUE}};
        for (int[] b : bad) {
            Check.refuses(x, "verify " + b[0] + " " + b[1], () -> x.dsaVerify(b[0], b[1]),
                IllegalArgumentException.class);
        }
    }

    private static void wrongContexts() {
        ModuleSigner x = signed(1);
        for (int n : new int[] {256, 257, 8192}) {
            x.resize(Check.CONTEXT, n);
            Check.refuses(x, "a context of " + n, () -> x.dsaVerify(1, 0), IllegalStateException.class);
            Check.refuses(x, "a context of " + n + " comes before PUBLIC", () -> x.dsaVerify(0, 0),
                IllegalStateException.class);
        }
        x.resize(Check.CONTEXT, 255);
        Check.isTrue("a context of 255", !x.dsaVerify(1, 0));
    }

    private static void wrongKeys(int set) {
        ModuleSigner x = signed(set);
        int size = Check.PUBLIC_SIZES[set];
        for (int n : new int[] {0, size - 1, size + 1, Check.PUBLIC_SIZES[(set + 1) % 3], 8192}) {
            x.resize(Check.PUBLIC, n);
            Check.refuses(x, "a public key of " + n, () -> x.dsaVerify(set, 0), UnsupportedOperationException.class);
            Check.refuses(x, "a public key of " + n, () -> x.dsaVerify(set, -1), UnsupportedOperationException.class);
        }
        // The key comes before the packet.
        x.resize(Check.PACKET, 0);
        Check.refuses(x, "a public key and a packet", () -> x.dsaVerify(set, 0), UnsupportedOperationException.class);
    }
}
