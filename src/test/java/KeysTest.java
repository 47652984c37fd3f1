/** Promise 10: dsaKeys. The marks are of an implementation in Python that agrees with OpenSSL. */
public final class KeysTest {
    private static final String[][] MARKS = {
        {"eb4e7302842153b0", "0f9086044d77b6d6", "62c4f1b3164db7fa", "6433074c5ffc9e0f", "9f107644c1084526",
            "04bf6b9f579166a6", "f3cbba7e447ce3d7", "75112a6c424d2e07", "2ec1f0388b2692af", "7b0e5800289d18e0"},
        {"085ba380ff386dd5", "cfcb5e7edf4348f7", "accc50ec0bce6148", "11681dc1c20ee8ab", "d666806e11cee19a",
            "9f1e24f47795fe50", "9241a8f6a150c023", "39b587836d5f4c05", "0936ae00650efd8e", "9cf18efbec72a55c"},
        {"1d4a461707fc50a7", "370d670bcc5cac39", "ecc28bd43ae792d5", "77254446791dbd4e", "91dc389cfaa01470",
            "764d3e223ed90c07", "828c1e2e3173efc3", "53b3d69f61ce1f15", "d02c1d434ffcb315", "69d8e036c3fe83d3"}
    };

    public static void main(String[] args) {
        for (int set = 0; set < 3; set++) {
            knownKeys(set);
        }
        nothingElseChanges();
        keysOfAllSetsAfterOneAnother();
        wrongSets();
        wrongRandoms();
        Check.finish("KeysTest");
    }

    private static void knownKeys(int set) {
        byte[][] randoms = {new byte[32], Check.ramp(32, 255, 0), Check.ramp(32, 0, 1), Check.noise(32, 1),
            Check.noise(32, 2)};
        for (int i = 0; i < randoms.length; i++) {
            ModuleSigner x = new ModuleSigner();
            Check.load(x, Check.RANDOM, randoms[i]);
            String what = "keys of set " + set + ", random " + i;
            Check.same(what, x.dsaKeys(set), Check.SECRET_SIZES[set]);
            Check.same(what + ": PUBLIC has", x.length(Check.PUBLIC), Check.PUBLIC_SIZES[set]);
            Check.same(what + ": SECRET has", x.length(Check.SECRET), Check.SECRET_SIZES[set]);
            Check.same(what + ": PUBLIC", Check.mark(x, Check.PUBLIC), MARKS[set][2 * i]);
            Check.same(what + ": SECRET", Check.mark(x, Check.SECRET), MARKS[set][2 * i + 1]);
        }
    }

    private static void nothingElseChanges() {
        ModuleSigner x = new ModuleSigner();
        for (int slot = 0; slot < Check.SLOTS; slot++) {
            Check.load(x, slot, Check.noise(slot == 0 ? 32 : 1000 + slot, slot));
        }
        x.feed(1, 2, 3, 4, 5);
        x.dsaKeys(1);
        int[] others = {Check.RANDOM, Check.MESSAGE, Check.CONTEXT, Check.PACKET, Check.SHARED, Check.SPARE};
        for (int slot : others) {
            byte[] due = Check.noise(slot == 0 ? 32 : 1000 + slot, slot);
            Check.same("slot " + slot + " stays", Check.hex(Check.read(x, slot)), Check.hex(due));
        }
        Check.same("the tape stays", x.feed(1, 2, 3, 4, 5), 40);
    }

    private static void keysOfAllSetsAfterOneAnother() {
        ModuleSigner x = new ModuleSigner();
        Check.load(x, Check.RANDOM, Check.noise(32, 1));
        for (int set : new int[] {2, 0, 1, 0, 2}) {
            Check.same("keys again", x.dsaKeys(set), Check.SECRET_SIZES[set]);
            Check.same("keys again: PUBLIC", Check.mark(x, Check.PUBLIC), MARKS[set][6]);
            Check.same("keys again: SECRET", Check.mark(x, Check.SECRET), MARKS[set][7]);
        }
    }

    private static void wrongSets() {
        ModuleSigner x = new ModuleSigner();
        for (int set : new int[] {-1, 3, Integer.MIN_VALUE, Integer.MAX_VALUE}) {
            // RANDOM is empty, too: the number comes first.
            Check.refuses(x, "keys of set " + set, () -> x.dsaKeys(set), IllegalArgumentException.class);
        }
        Check.load(x, Check.RANDOM, Check.noise(32, 1));
        for (int set : new int[] {-1, 3, Integer.MIN_VALUE, Integer.MAX_VALUE}) {
            Check.refuses(x, "keys of set " + set, () -> x.dsaKeys(set), IllegalArgumentException.class);
        }
    }

    private static void wrongRandoms() {
        ModuleSigner x = new ModuleSigner();
        Check.load(x, Check.RANDOM, Check.noise(32, 1));
        x.dsaKeys(0);
        for (int n : new int[] {0, 1, 31, 33, 64, 8192}) {
            x.resize(Check.RANDOM, n);
            for (int set = 0; set < 3; set++) {
                int s = set;
                Check.refuses(x, "keys of " + n + " bytes", () -> x.dsaKeys(s), IllegalStateException.class);
            }
        }
    }
}
