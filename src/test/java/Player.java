import java.util.ArrayList;
import java.util.List;

/**
 * An object under test whose calls are written down. The document promises nothing about an object after its 512th
 * call, and to read a slot takes a call for each eight bytes: so slots and tape are read off new objects, on which the
 * same calls are made first, and no object sees more than 512.
 */
final class Player {
    static final int MOST_CALLS = 512;
    /** How many bytes the tape can hold at most: the next 20 would be more than 8192. */
    static final int MOST_FED = 8180;

    private interface Call {
        void on(ModuleSigner x);
    }

    private final List<Call> calls = new ArrayList<>();
    private final ModuleSigner object = new ModuleSigner();
    private byte[][] known = null;

    private void write(Call call) {
        if (calls.size() >= MOST_CALLS) {
            throw new AssertionError("this test makes more than 512 calls on one object");
        }
        calls.add(call);
        known = null;
    }

    int calls() {
        return calls.size();
    }

    int feed(int a, int b, int c, int d, int e) {
        write(x -> x.feed(a, b, c, d, e));
        return object.feed(a, b, c, d, e);
    }

    int end(int slot, int n) {
        write(x -> x.end(slot, n));
        return object.end(slot, n);
    }

    int copy(int from, int to) {
        write(x -> x.copy(from, to));
        return object.copy(from, to);
    }

    int resize(int slot, int n) {
        write(x -> x.resize(slot, n));
        return object.resize(slot, n);
    }

    int alter(int slot, int i, int v) {
        write(x -> x.alter(slot, i, v));
        return object.alter(slot, i, v);
    }

    int length(int slot) {
        write(x -> x.length(slot));
        return object.length(slot);
    }

    long word(int slot, int i) {
        write(x -> x.word(slot, i));
        return object.word(slot, i);
    }

    boolean same(int slot, int other) {
        write(x -> x.same(slot, other));
        return object.same(slot, other);
    }

    int dsaKeys(int set) {
        write(x -> x.dsaKeys(set));
        return object.dsaKeys(set);
    }

    int dsaSign(int set, int how) {
        write(x -> x.dsaSign(set, how));
        return object.dsaSign(set, how);
    }

    boolean dsaVerify(int set, int how) {
        write(x -> x.dsaVerify(set, how));
        return object.dsaVerify(set, how);
    }

    /** Brings any bytes to a slot; the tape must be empty before. Zeros at their end are not fed. */
    void load(int slot, byte[] bytes) {
        int fed = bytes.length;
        while (fed > 0 && bytes[fed - 1] == 0) {
            fed--;
        }
        int most = Math.min(fed, MOST_FED);
        for (int i = 0; i < most; i += 20) {
            feed(intAt(bytes, i), intAt(bytes, i + 4), intAt(bytes, i + 8), intAt(bytes, i + 12),
                intAt(bytes, i + 16));
        }
        end(slot, most);
        if (most < bytes.length) {
            resize(slot, bytes.length);
        }
        for (int i = most; i < fed; i++) {
            alter(slot, i, bytes[i] & 255);
        }
    }

    private static int intAt(byte[] bytes, int i) {
        int value = 0;
        for (int j = i; j < i + 4; j++) {
            value = value << 8 | (j < bytes.length ? bytes[j] & 255 : 0);
        }
        return value;
    }

    byte[] read(int slot) {
        return known != null ? known[slot] : new Reader(-1).read(slot);
    }

    /** All slots, and behind them the tape. */
    byte[][] state() {
        if (known == null) {
            byte[][] all = new byte[Check.SLOTS + 1][];
            Reader reader = new Reader(-1);
            for (int slot = 0; slot < Check.SLOTS; slot++) {
                all[slot] = reader.read(slot);
            }
            int fed = tapeLength();
            all[Check.SLOTS] = fed == 0 ? new byte[0] : new Reader(fed).read(Check.SPARE);
            known = all;
        }
        return known;
    }

    private int tapeLength() {
        try {
            return new Reader(-1).next().feed(0, 0, 0, 0, 0) - 20;
        } catch (IndexOutOfBoundsException full) {
            return MOST_FED;
        }
    }

    private ModuleSigner again() {
        ModuleSigner x = new ModuleSigner();
        for (Call call : calls) {
            try {
                call.on(x);
            } catch (RuntimeException thrown) {
                // It was thrown when the call was made first, too, and looked at there.
                continue;
            }
        }
        return x;
    }

    /** Reads off new objects; if there is a number of bytes fed, the tape comes to the spare slot of each first. */
    private final class Reader {
        private final int fed;
        private ModuleSigner x = null;
        private int left = 0;

        Reader(int fed) {
            this.fed = fed;
        }

        /** An object that may be called once more. */
        ModuleSigner next() {
            if (left == 0) {
                x = again();
                left = MOST_CALLS - calls.size();
                if (fed >= 0) {
                    x.end(Check.SPARE, fed);
                    left--;
                }
                if (left <= 0) {
                    throw new AssertionError("this test leaves no call to read what came out");
                }
            }
            left--;
            return x;
        }

        byte[] read(int slot) {
            byte[] bytes = new byte[next().length(slot)];
            for (int i = 0; i < bytes.length; i += 8) {
                long word = next().word(slot, i);
                for (int j = 0; j < 8 && i + j < bytes.length; j++) {
                    bytes[i + j] = (byte) (word >>> 56 - 8 * j);
                }
            }
            return bytes;
        }
    }
}
