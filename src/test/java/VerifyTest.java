/**
 * Promise 12: dsaVerify, but for the limits of VERIFY, which stand in VerifyLimitsTest. The marks are of an
 * implementation in Python that agrees with OpenSSL.
 */
public final class VerifyTest {
    /** For each set the marks of a signature, and of SHARED after one thing has been changed. */
    private static final String[][] CHANGED = {
        {"c0921565a0a724b2", "f33ae49e24b81916", "76a09bb0bcd34b7f", "6e06d69b8166b257",
            "8190e2402c477d84", "4ed0bf68609ed294", "3e4063e92c2bc8dc", "c338f5d4c9b6ba96"},
        {"87602fbeef598158", "055abab924d02892", "bc5f1a3f77d46c95", "7d41efc99ad2264e",
            "b5ea45c30f323af0", "1c993a9b1e73b06b", "beb241b49dadee7a", "7c40ba0b025b3db4"},
        {"8c819337dc2ceed2", "1745d0bb28d9d36c", "31e1551664c181d9", "869d6f5de9eeb18d",
            "cf540190a01eecc4", "c7d8e64c30528a93", "d4f843a1dad647b4", "51f50aa3f9284c59"}
    };

    public static void main(String[] args) {
        for (int set = 0; set < 3; set++) {
            signedIsTrue(set);
            onlySharedChanges(set);
            changedIsFalse(set);
            aZeroMoreIsFalse(set);
            packetsOfOtherSizes(set);
            contextsUpToTheLimit(set);
            contextsOverTheLimit(set);
            keysOfOtherSizes(set);
        }
        contextIsNothingToHowMinusOne();
        numbersOutOfRange();
        Check.finish("VerifyTest");
    }

    /** An object with a key, a message, a context and their signature. */
    private static Player signed(int set) {
        Player x = new Player();
        x.load(Check.RANDOM, Check.noise(32, 1));
        x.dsaKeys(set);
        x.resize(Check.RANDOM, 0);
        x.load(Check.MESSAGE, Check.noise(50, 77));
        x.load(Check.CONTEXT, Check.noise(7, 78));
        x.dsaSign(set, 0);
        // Neither of these may play a part, nor have a size that anything asks for.
        x.resize(Check.RANDOM, 5);
        x.resize(Check.SECRET, 9);
        return x;
    }

    private static void signedIsTrue(int set) {
        Player x = signed(set);
        Check.same("the signature", Check.mark(x.read(Check.PACKET)), CHANGED[set][0]);
        Check.isTrue("verify, set " + set, x.dsaVerify(set, 0));
        Check.isTrue("verify once more, set " + set, x.dsaVerify(set, 0));
        Check.isTrue("how -1 over the same is not signed", !x.dsaVerify(set, -1));
        x.resize(Check.RANDOM, 32);
        x.dsaKeys(set);
        Check.isTrue("another key has not signed it", !x.dsaVerify(set, 0));
    }

    /** "SHARED is what is compared with C": so C itself, and all of what SHARED held before is gone. */
    private static void onlySharedChanges(int set) {
        for (int n : new int[] {0, 20, 8192}) {
            Player x = signed(set);
            x.resize(Check.SHARED, n);
            x.load(Check.SPARE, Check.noise(33, 3));
            x.feed(1, 2, 3, 4, 5);
            byte[][] due = x.state().clone();
            due[Check.SHARED] = Reference.part(due[Check.PACKET], 0, Check.CHALLENGE_SIZES[set]);
            Check.isTrue("verify, set " + set, x.dsaVerify(set, 0));
            for (int i = 0; i < due.length; i++) {
                Check.bytes("row " + i + " after dsaVerify", x.state()[i], due[i]);
            }
        }
    }

    /** "(also if it is not the same)": SHARED is what was found then. */
    private static void changedIsFalse(int set) {
        Reference r = new Reference(set);
        int challenge = Check.CHALLENGE_SIZES[set];
        // The third changes nothing: there it is how that differs.
        int[][] changes = {{Check.MESSAGE, 49, 1}, {Check.CONTEXT, 0, 128}, {Check.SPARE, 0, 0},
            {Check.PUBLIC, 31, 1}, {Check.PUBLIC, Check.PUBLIC_SIZES[set] - 1, 64},
            {Check.PACKET, challenge - 1, 1}, {Check.PACKET, challenge, 1}};
        Player x = signed(set);
        x.resize(Check.SPARE, 1);
        for (int i = 0; i < changes.length; i++) {
            int[] change = changes[i];
            int how = change[0] == Check.SPARE ? -1 : 0;
            x.alter(change[0], change[1], change[2]);
            x.resize(Check.SHARED, 0);
            byte[][] state = x.state();
            byte[] due = r.compared(state[Check.PUBLIC],
                Reference.signed(how, state[Check.CONTEXT], state[Check.MESSAGE]), state[Check.PACKET]);
            Check.isTrue("set " + set + ", change " + i + " is seen", !x.dsaVerify(set, how));
            Check.bytes("set " + set + ", change " + i, x.read(Check.SHARED), due);
            Check.same("set " + set + ", change " + i, Check.mark(x.read(Check.SHARED)), CHANGED[set][i + 1]);
            x.alter(change[0], change[1], change[2]);
        }
        Check.isTrue("all is back", x.dsaVerify(set, 0));
    }

    private static void aZeroMoreIsFalse(int set) {
        Player x = signed(set);
        x.resize(Check.MESSAGE, 51);
        Check.isTrue("a message with a zero more", !x.dsaVerify(set, 0));
        x.resize(Check.MESSAGE, 49);
        Check.isTrue("a message with one less", !x.dsaVerify(set, 0));
        x.load(Check.MESSAGE, Check.noise(50, 77));
        Check.isTrue("the message again", x.dsaVerify(set, 0));
        x.resize(Check.CONTEXT, 8);
        Check.isTrue("a context with a zero more", !x.dsaVerify(set, 0));
        x.resize(Check.CONTEXT, 6);
        Check.isTrue("a context with one less", !x.dsaVerify(set, 0));
    }

    /** "false unless s has so many BYTES": and then "SHARED stays". */
    private static void packetsOfOtherSizes(int set) {
        int size = Check.PACKET_SIZES[set];
        for (int n : new int[] {size + 1, size - 1, 0, 1, Check.PACKET_SIZES[(set + 1) % 3],
            Check.PACKET_SIZES[(set + 2) % 3], 8192}) {
            Player x = signed(set);
            x.load(Check.SHARED, Check.noise(70, 70));
            x.resize(Check.PACKET, n);
            x.feed(1, 2, 3, 4, 5);
            byte[][] due = x.state();
            Check.isTrue("a packet of " + n, !x.dsaVerify(set, 0) && !x.dsaVerify(set, -1));
            for (int i = 0; i < due.length; i++) {
                Check.bytes("row " + i + " after a packet of " + n, x.state()[i], due[i]);
            }
        }
        Player x = signed(set);
        x.resize(Check.PACKET, size + 1);
        x.resize(Check.PACKET, size);
        Check.isTrue("a packet of " + size, x.dsaVerify(set, 0));
    }

    private static void contextsUpToTheLimit(int set) {
        for (int n : new int[] {0, 1, 254, 255}) {
            Player x = new Player();
            x.load(Check.RANDOM, Check.noise(32, 1));
            x.dsaKeys(set);
            x.load(Check.CONTEXT, Check.noise(n, 78));
            x.dsaSign(set, 0);
            Check.isTrue("a context of " + n, x.dsaVerify(set, 0));
            Check.isTrue("a context of " + n + " is signed", !x.dsaVerify(set, -1));
        }
    }

    /** "CONTEXT as for dsaSign: IllegalStateException". */
    private static void contextsOverTheLimit(int set) {
        Player x = signed(set);
        x.load(Check.SHARED, Check.noise(70, 70));
        x.feed(1, 2, 3, 4, 5);
        for (int n : new int[] {256, 257, 511, 512, 8192}) {
            x.resize(Check.CONTEXT, n);
            Check.refuses(x, "a context of " + n, () -> x.dsaVerify(set, 0), IllegalStateException.class);
        }
        x.resize(Check.CONTEXT, 255);
        Check.isTrue("a context of 255", !x.dsaVerify(set, 0));
    }

    /** "(how -1: any number is fine)". */
    private static void contextIsNothingToHowMinusOne() {
        for (int set = 0; set < 3; set++) {
            Player x = new Player();
            x.load(Check.RANDOM, Check.noise(32, 1));
            x.dsaKeys(set);
            x.load(Check.MESSAGE, Check.noise(50, 77));
            x.dsaSign(set, -1);
            for (int n : new int[] {0, 1, 255, 256, 8192}) {
                x.resize(Check.CONTEXT, n);
                Check.isTrue("how -1 with a context of " + n, x.dsaVerify(set, -1));
            }
            x.resize(Check.CONTEXT, 0);
            Check.isTrue("how 0 is another message", !x.dsaVerify(set, 0));
        }
    }

    /** "set 0 .. 2, how -1, 0". */
    private static void numbersOutOfRange() {
        Player x = signed(1);
        x.load(Check.SHARED, Check.noise(70, 70));
        x.feed(1, 2, 3, 4, 5);
        int[][] bad = {{-1, 0}, {3, 0}, {-1, -1}, {3, -1}, {1, 1}, {1, -2}, {3, 1}, {-1, -2}, {Check.LEAST, -1},
            {Check.GREATEST, 0}, {1, Check.LEAST}, {1, Check.GREATEST}};
        for (int[] b : bad) {
            Check.refuses(x, "verify " + b[0] + " " + b[1], () -> x.dsaVerify(b[0], b[1]),
                IllegalArgumentException.class);
        }
    }

    /** "PUBLIC has not as many BYTES as a P: UnsupportedOperationException". */
    private static void keysOfOtherSizes(int set) {
        Player x = signed(set);
        x.load(Check.SHARED, Check.noise(70, 70));
        x.feed(1, 2, 3, 4, 5);
        int size = Check.PUBLIC_SIZES[set];
        for (int n : new int[] {size + 1, Check.PUBLIC_SIZES[(set + 1) % 3], Check.PUBLIC_SIZES[(set + 2) % 3], 8192,
            size - 1, 1, 0}) {
            x.resize(Check.PUBLIC, n);
            Check.refuses(x, "a public key of " + n, () -> x.dsaVerify(set, 0), UnsupportedOperationException.class);
            Check.refuses(x, "a public key of " + n, () -> x.dsaVerify(set, -1), UnsupportedOperationException.class);
        }
        // The key comes before the packet.
        x.resize(Check.PACKET, 0);
        Check.refuses(x, "a key and a packet", () -> x.dsaVerify(set, 0), UnsupportedOperationException.class);
        x.resize(Check.PUBLIC, size);
        Check.isTrue("a public key of " + size, !x.dsaVerify(set, 0));
    }
}
