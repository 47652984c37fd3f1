/**
 * "What is thrown, in this order: IllegalArgumentException: a number out of range; then as the call says. A call that
 * throws changes nothing, but as said." Here the calls of which more than one thing can be wrong at once have all of
 * them wrong, in every combination. Which numbers and sizes are wrong is tested with each promise.
 */
public final class RefusalsTest {
    private static final Class<? extends RuntimeException> NUMBER = IllegalArgumentException.class;
    private static final Class<? extends RuntimeException> STATE = IllegalStateException.class;
    private static final Class<? extends RuntimeException> KEY = UnsupportedOperationException.class;
    private static final Class<? extends RuntimeException> PLACE = IndexOutOfBoundsException.class;

    public static void main(String[] args) {
        for (int faults = 1; faults < 8; faults++) {
            end(has(faults, 0), has(faults, 1), has(faults, 2));
            alter(has(faults, 0), has(faults, 1), has(faults, 2));
        }
        for (int faults = 1; faults < 4; faults++) {
            word(has(faults, 0), has(faults, 1));
            keys(has(faults, 0), has(faults, 1));
        }
        for (int set = 0; set < 3; set++) {
            for (int faults = 1; faults < 32; faults++) {
                sign(set, faults);
                verify(set, faults);
            }
        }
        Check.finish("RefusalsTest");
    }

    private static boolean has(int faults, int i) {
        return (faults >> i & 1) == 1;
    }

    /** An object with a key, a signature and something in all slots and on the tape. */
    private static Player filled(int set) {
        Player x = new Player();
        x.load(Check.RANDOM, Check.noise(32, 6));
        x.dsaKeys(set);
        x.load(Check.MESSAGE, Check.noise(25, 1));
        x.load(Check.CONTEXT, Check.noise(5, 2));
        x.dsaSign(set, 0);
        x.load(Check.SHARED, Check.noise(9, 3));
        x.load(Check.SPARE, Check.noise(11, 4));
        x.feed(1, 2, 3, 4, 5);
        return x;
    }

    private static void end(boolean slotWrong, boolean sizeWrong, boolean tooFew) {
        for (int slot : new int[] {-1, 8}) {
            for (int n : new int[] {-1, 8193}) {
                Player x = filled(0);
                int s = slotWrong ? slot : Check.SPARE;
                int m = sizeWrong ? n : tooFew ? 21 : 20;
                Check.refuses(x, "end " + s + " " + m, () -> x.end(s, m), slotWrong || sizeWrong ? NUMBER : PLACE);
            }
        }
    }

    private static void alter(boolean slotWrong, boolean valueWrong, boolean placeWrong) {
        for (int i : new int[] {-1, 11}) {
            for (int v : new int[] {-1, 256}) {
                Player x = filled(0);
                int slot = slotWrong ? 8 : Check.SPARE;
                int place = placeWrong ? i : 10;
                int value = valueWrong ? v : 255;
                Check.refuses(x, "alter " + slot + " " + place + " " + value, () -> x.alter(slot, place, value),
                    slotWrong || valueWrong ? NUMBER : PLACE);
            }
        }
    }

    private static void word(boolean slotWrong, boolean placeWrong) {
        for (int i : new int[] {-1, 11}) {
            Player x = filled(0);
            int slot = slotWrong ? -1 : Check.SPARE;
            int place = placeWrong ? i : 10;
            Check.refuses(x, "word " + slot + " " + place, () -> x.word(slot, place), slotWrong ? NUMBER : PLACE);
        }
    }

    private static void keys(boolean setWrong, boolean randomWrong) {
        for (int set : new int[] {-1, 3}) {
            Player x = filled(0);
            int s = setWrong ? set : 2;
            x.resize(Check.RANDOM, randomWrong ? 31 : 32);
            Check.refuses(x, "keys of set " + s, () -> x.dsaKeys(s), setWrong ? NUMBER : STATE);
        }
    }

    /** set, how, CONTEXT, RANDOM, SECRET: in this order. */
    private static void sign(int set, int faults) {
        for (int how = -1; how <= 0; how++) {
            Player x = filled(set);
            int s = has(faults, 0) ? 3 : set;
            int h = has(faults, 1) ? 1 : how;
            x.resize(Check.CONTEXT, has(faults, 2) ? 256 : 255);
            x.resize(Check.RANDOM, has(faults, 3) ? 33 : 32);
            x.resize(Check.SECRET, Check.SECRET_SIZES[set] - (has(faults, 4) ? 1 : 0));
            boolean number = has(faults, 0) || has(faults, 1);
            boolean state = has(faults, 2) && how == 0 || has(faults, 3);
            String what = "sign, set " + set + ", how " + how + ", faults " + Integer.toBinaryString(faults);
            if (number || state || has(faults, 4)) {
                Check.refuses(x, what, () -> x.dsaSign(s, h), number ? NUMBER : state ? STATE : KEY);
            } else {
                Check.isTrue(what + " is fine", x.dsaSign(s, h) > 0);
            }
        }
    }

    /** set, how, CONTEXT, PUBLIC: in this order; and a wrong PACKET, which alone makes it false, comes last. */
    private static void verify(int set, int faults) {
        for (int how = -1; how <= 0; how++) {
            Player x = filled(set);
            int s = has(faults, 0) ? -1 : set;
            int h = has(faults, 1) ? -2 : how;
            x.resize(Check.CONTEXT, has(faults, 2) ? 256 : 255);
            x.resize(Check.PUBLIC, Check.PUBLIC_SIZES[set] + (has(faults, 3) ? 1 : 0));
            x.resize(Check.PACKET, Check.PACKET_SIZES[set] - (has(faults, 4) ? 1 : 0));
            boolean number = has(faults, 0) || has(faults, 1);
            boolean state = has(faults, 2) && how == 0;
            String what = "verify, set " + set + ", how " + how + ", faults " + Integer.toBinaryString(faults);
            if (number || state || has(faults, 3)) {
                Check.refuses(x, what, () -> x.dsaVerify(s, h), number ? NUMBER : state ? STATE : KEY);
            } else {
                Check.isTrue(what + " is false", !x.dsaVerify(s, h));
            }
        }
    }
}
