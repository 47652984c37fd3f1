/** Promises 4 to 9: copy, resize, alter, length, word and same, with "SLOTS 0 .. 7 hold BYTES, at most 8192 each". */
public final class SlotsTest {
    private static final int[] NO_SLOTS = {-1, 8, 9, 255, 256, Check.LEAST, Check.GREATEST};

    public static void main(String[] args) {
        copyMakesTheSame();
        copyAtTheLimits();
        copyHidesWhatWasThere();
        copyRefuses();
        resizeKeepsTheFirst();
        resizeAtTheLimits();
        resizeRefuses();
        alterXors();
        alterAtTheLimits();
        alterRefuses();
        lengthOfEach();
        lengthRefuses();
        wordHasTheHighestFirst();
        wordAtTheEnd();
        wordOfAFullSlot();
        wordRefuses();
        sameAndNotSame();
        sameAtTheLimits();
        sameRefuses();
        Check.finish("SlotsTest");
    }

    // Promise 4

    private static void copyMakesTheSame() {
        Player x = new Player();
        x.load(1, Check.ramp(100, 3, 7));
        x.load(6, Check.ramp(300, 1, 1));
        Check.same("copy over a longer one", x.copy(1, 6), 100);
        Check.bytes("copy over a longer one: to", x.read(6), Check.ramp(100, 3, 7));
        Check.bytes("copy over a longer one: from", x.read(1), Check.ramp(100, 3, 7));
        x.load(2, Check.ramp(7, 9, 9));
        Check.same("copy over a shorter one", x.copy(1, 2), 100);
        Check.bytes("copy over a shorter one: to", x.read(2), Check.ramp(100, 3, 7));
        x.alter(6, 0, 255);
        Check.same("a copy is its own", x.word(1, 0), 0x030a11181f262d34L);
        x.alter(1, 1, 255);
        Check.same("and so is what it is of", x.word(6, 0), 0xfc0a11181f262d34L);
    }

    /** From 0 to 7 and back, to itself, none, and all 8192. */
    private static void copyAtTheLimits() {
        Player x = new Player();
        x.load(0, Check.ramp(9, 1, 1));
        Check.same("copy 0 to 7", x.copy(0, 7), 9);
        x.resize(0, 0);
        Check.same("copy 7 to 0", x.copy(7, 0), 9);
        Check.bytes("there and back", x.read(0), Check.ramp(9, 1, 1));
        Check.same("copy on itself", x.copy(7, 7), 9);
        Check.bytes("copy on itself: the bytes", x.read(7), Check.ramp(9, 1, 1));
        Check.same("copy of none", x.copy(3, 7), 0);
        Check.same("copy of none: the length", x.length(7), 0);
        Check.same("copy of none on itself", x.copy(3, 3), 0);
        Player y = new Player();
        y.load(5, Check.noise(8192, 4));
        Check.same("copy of all", y.copy(5, 4), 8192);
        Check.bytes("copy of all: the bytes", y.read(4), Check.noise(8192, 4));
        Check.same("copy of all on itself", y.copy(4, 4), 8192);
        Check.isTrue("copy of all on itself: the bytes", y.same(4, 5));
    }

    /** "to becomes as from is": what stood behind does not come back. */
    private static void copyHidesWhatWasThere() {
        Player x = new Player();
        x.load(3, Check.ramp(64, 200, 1));
        x.load(4, Check.ramp(8, 1, 1));
        x.copy(4, 3);
        Check.same("word over the end", x.word(3, 4), 0x0506070800000000L);
        Check.refuses(x, "behind the end", () -> x.word(3, 8), IndexOutOfBoundsException.class);
        x.resize(3, 64);
        Check.same("zeros behind", Check.hex(x.read(3)), "0102030405060708" + "00".repeat(56));
    }

    /** "from, to 0 .. 7." */
    private static void copyRefuses() {
        Player x = new Player();
        x.load(0, Check.ramp(9, 1, 1));
        x.feed(1, 2, 3, 4, 5);
        for (int slot : NO_SLOTS) {
            Check.refuses(x, "copy " + slot + " to 0", () -> x.copy(slot, 0), IllegalArgumentException.class);
            Check.refuses(x, "copy 0 to " + slot, () -> x.copy(0, slot), IllegalArgumentException.class);
            Check.refuses(x, "copy " + slot + " on itself", () -> x.copy(slot, slot), IllegalArgumentException.class);
        }
    }

    // Promise 5

    private static void resizeKeepsTheFirst() {
        Player x = new Player();
        x.load(4, Check.ramp(20, 1, 1));
        Check.same("resize to 5", x.resize(4, 5), 20);
        Check.same("the first five", Check.hex(x.read(4)), "0102030405");
        Check.same("resize to 9", x.resize(4, 9), 5);
        Check.same("what was cut off stays off", Check.hex(x.read(4)), "010203040500000000");
        x.alter(4, 8, 7);
        Check.same("resize to 8", x.resize(4, 8), 9);
        Check.same("resize to 9 again", x.resize(4, 9), 8);
        Check.same("one byte that was cut off", Check.hex(x.read(4)), "010203040500000000");
    }

    /** "n 0 .. 8192": none, all, as many as there are, one more and one less. */
    private static void resizeAtTheLimits() {
        for (int slot : new int[] {0, 7}) {
            Player x = new Player();
            Check.same("none to none", x.resize(slot, 0), 0);
            Check.same("none to one", x.resize(slot, 1), 0);
            Check.same("one to all", x.resize(slot, 8192), 1);
            Check.same("the last byte is there", x.alter(slot, 8191, 5), 5);
            Check.same("all to all", x.resize(slot, 8192), 8192);
            Check.same("and it stays", x.word(slot, 8191), 5L << 56);
            Check.same("all to one less", x.resize(slot, 8191), 8192);
            Check.refuses(x, "the last byte is gone", () -> x.word(slot, 8191), IndexOutOfBoundsException.class);
            Check.same("one less to all", x.resize(slot, 8192), 8191);
            Check.bytes("all zeros", x.read(slot), new byte[8192]);
            Check.same("all to none", x.resize(slot, 0), 8192);
            Check.same("none", x.length(slot), 0);
            Check.same("none to eight", x.resize(slot, 8), 0);
            Check.same("all zeros again", x.word(slot, 0), 0L);
        }
    }

    private static void resizeRefuses() {
        Player x = new Player();
        x.load(0, Check.ramp(9, 1, 1));
        x.feed(1, 2, 3, 4, 5);
        for (int slot : NO_SLOTS) {
            Check.refuses(x, "resize slot " + slot, () -> x.resize(slot, 5), IllegalArgumentException.class);
            Check.refuses(x, "resize " + slot + " to -1", () -> x.resize(slot, -1), IllegalArgumentException.class);
        }
        for (int n : new int[] {-1, 8193, Check.LEAST, Check.GREATEST}) {
            Check.refuses(x, "resize to " + n, () -> x.resize(0, n), IllegalArgumentException.class);
            Check.refuses(x, "resize slot 7 to " + n, () -> x.resize(7, n), IllegalArgumentException.class);
        }
    }

    // Promise 6

    private static void alterXors() {
        Player x = new Player();
        x.load(1, Check.ramp(20, 250, 1));
        Check.same("alter", x.alter(1, 0, 15), 245);
        Check.same("alter by 1", x.alter(1, 3, 1), 252);
        Check.same("alter by 128", x.alter(1, 4, 128), 126);
        Check.same("only these", x.word(1, 0), 0xf5fbfcfc7eff0001L);
        Check.same("alter back", x.alter(1, 4, 128), 254);
    }

    /** v 0 and 255; the first byte and the last, of a slot and of a full one. */
    private static void alterAtTheLimits() {
        Player x = new Player();
        x.load(1, Check.ramp(20, 250, 1));
        Check.same("alter the last by 0", x.alter(1, 19, 0), 13);
        Check.same("alter the last by 255", x.alter(1, 19, 255), 242);
        Check.same("alter the first by 255", x.alter(1, 0, 255), 5);
        Check.same("to 0", x.alter(1, 0, 5), 0);
        Check.same("to 255", x.alter(1, 0, 255), 255);
        Check.refuses(x, "alter behind the last", () -> x.alter(1, 20, 1), IndexOutOfBoundsException.class);
        Check.refuses(x, "alter before the first", () -> x.alter(1, -1, 1), IndexOutOfBoundsException.class);
        for (int slot : new int[] {0, 7}) {
            x.resize(slot, 8192);
            Check.same("alter byte 8191", x.alter(slot, 8191, 255), 255);
            Check.same("it is there", x.word(slot, 8184), 255L);
            Check.refuses(x, "alter byte 8192", () -> x.alter(slot, 8192, 1), IndexOutOfBoundsException.class);
        }
        x.resize(1, 3);
        Check.same("alter before the cut", x.alter(1, 2, 0), 252);
        Check.refuses(x, "alter behind the cut", () -> x.alter(1, 3, 1), IndexOutOfBoundsException.class);
        Check.refuses(x, "alter by 0 behind the cut", () -> x.alter(1, 3, 0), IndexOutOfBoundsException.class);
    }

    /** "v 0 .. 255; there is none: IndexOutOfBoundsException": the numbers come first. */
    private static void alterRefuses() {
        Player x = new Player();
        x.load(1, Check.ramp(20, 250, 1));
        x.feed(1, 2, 3, 4, 5);
        for (int i : new int[] {20, -1, 8191, 8192, Check.LEAST, Check.GREATEST}) {
            Check.refuses(x, "alter byte " + i, () -> x.alter(1, i, 1), IndexOutOfBoundsException.class);
            Check.refuses(x, "alter byte " + i + " by 0", () -> x.alter(1, i, 0), IndexOutOfBoundsException.class);
            Check.refuses(x, "alter byte " + i + " by 256", () -> x.alter(1, i, 256), IllegalArgumentException.class);
            Check.refuses(x, "alter byte " + i + " of slot 8", () -> x.alter(8, i, 1), IllegalArgumentException.class);
        }
        Check.refuses(x, "alter byte 0 of none", () -> x.alter(0, 0, 1), IndexOutOfBoundsException.class);
        for (int v : new int[] {-1, 256, 257, -256, Check.LEAST, Check.GREATEST}) {
            Check.refuses(x, "alter by " + v, () -> x.alter(1, 0, v), IllegalArgumentException.class);
            Check.refuses(x, "alter none by " + v, () -> x.alter(0, 0, v), IllegalArgumentException.class);
        }
        for (int slot : NO_SLOTS) {
            Check.refuses(x, "alter slot " + slot, () -> x.alter(slot, 0, 1), IllegalArgumentException.class);
        }
    }

    // Promise 7

    private static void lengthOfEach() {
        Player x = new Player();
        int[] sizes = {0, 1, 2, 20, 255, 256, 8191, 8192};
        for (int i = 0; i < Check.SLOTS; i++) {
            x.resize(i, sizes[i]);
        }
        for (int i = 0; i < Check.SLOTS; i++) {
            Check.same("length " + i, x.length(i), sizes[i]);
        }
    }

    private static void lengthRefuses() {
        Player x = new Player();
        x.load(0, Check.ramp(9, 1, 1));
        x.feed(1, 2, 3, 4, 5);
        for (int slot : NO_SLOTS) {
            Check.refuses(x, "length " + slot, () -> x.length(slot), IllegalArgumentException.class);
        }
    }

    // Promise 8

    private static void wordHasTheHighestFirst() {
        Player x = new Player();
        x.load(2, Check.ramp(20, 0xf1, 1));
        Check.same("word 0", x.word(2, 0), 0xf1f2f3f4f5f6f7f8L);
        Check.same("word 1", x.word(2, 1), 0xf2f3f4f5f6f7f8f9L);
        Check.same("word 7", x.word(2, 7), 0xf8f9fafbfcfdfeffL);
        x.load(2, Check.ramp(8, 127, 0));
        Check.same("all 127", x.word(2, 0), 0x7f7f7f7f7f7f7f7fL);
    }

    /** "zeros behind the end": from the last place with eight bytes to the last place. */
    private static void wordAtTheEnd() {
        Player x = new Player();
        byte[] bytes = Check.ramp(20, 0xf1, 1);
        x.load(2, bytes);
        for (int i = 12; i < 20; i++) {
            long due = 0;
            for (int j = i; j < 20; j++) {
                due |= (bytes[j] & 255L) << 8 * (7 - (j - i));
            }
            Check.same("word " + i + " of 20", x.word(2, i), due);
        }
        x.resize(2, 10);
        Check.same("word 2 of 10", x.word(2, 2), 0xf3f4f5f6f7f8f9faL);
        Check.same("word 8 of 10, where bytes were cut off", x.word(2, 8), 0xf9fa000000000000L);
        Check.same("word 9 of 10", x.word(2, 9), 0xfa00000000000000L);
        x.load(2, new byte[] {-2});
        Check.same("word 0 of one byte", x.word(2, 0), 0xfe00000000000000L);
    }

    private static void wordOfAFullSlot() {
        for (int slot : new int[] {0, 7}) {
            Player x = new Player();
            x.load(slot, Check.ramp(8192, 1, 1));
            Check.same("word 8184", x.word(slot, 8184), 0xf9fafbfcfdfeff00L);
            Check.same("word 8185", x.word(slot, 8185), 0xfafbfcfdfeff0000L);
            x.alter(slot, 8191, 9);
            Check.same("word 8191", x.word(slot, 8191), 9L << 56);
            Check.refuses(x, "word 8192", () -> x.word(slot, 8192), IndexOutOfBoundsException.class);
        }
    }

    /** "i is not one of the SLOT: IndexOutOfBoundsException". */
    private static void wordRefuses() {
        Player x = new Player();
        x.load(2, Check.ramp(20, 0xf1, 1));
        x.resize(2, 10);
        x.feed(1, 2, 3, 4, 5);
        for (int i : new int[] {10, 11, 19, -1, -8, 8191, 8192, Check.LEAST, Check.GREATEST, Check.GREATEST - 7}) {
            Check.refuses(x, "word " + i, () -> x.word(2, i), IndexOutOfBoundsException.class);
            Check.refuses(x, "word " + i + " of slot 8", () -> x.word(8, i), IllegalArgumentException.class);
        }
        Check.refuses(x, "word 0 of none", () -> x.word(0, 0), IndexOutOfBoundsException.class);
        for (int slot : NO_SLOTS) {
            Check.refuses(x, "word of slot " + slot, () -> x.word(slot, 0), IllegalArgumentException.class);
        }
    }

    // Promise 9

    private static void sameAndNotSame() {
        Player x = new Player();
        x.load(1, Check.ramp(50, 9, 3));
        x.load(2, Check.ramp(50, 9, 3));
        Check.isTrue("equal ones", x.same(1, 2) && x.same(2, 1));
        for (int i : new int[] {0, 1, 24, 48, 49}) {
            for (int v : new int[] {1, 128}) {
                x.alter(2, i, v);
                Check.isTrue("byte " + i + " differs by " + v, !x.same(1, 2) && !x.same(2, 1));
                x.alter(2, i, v);
            }
        }
        Check.isTrue("equal again", x.same(1, 2));
    }

    /** None, one with itself, one that has one more, and all 8192. */
    private static void sameAtTheLimits() {
        Player x = new Player();
        Check.isTrue("two empty ones", x.same(0, 7) && x.same(7, 0) && x.same(3, 3));
        x.load(1, Check.ramp(50, 9, 3));
        x.copy(1, 2);
        Check.isTrue("one and itself", x.same(1, 1));
        Check.isTrue("one and none", !x.same(1, 0) && !x.same(0, 1));
        x.resize(2, 51);
        Check.isTrue("one has a zero more", !x.same(1, 2) && !x.same(2, 1));
        x.resize(2, 49);
        Check.isTrue("one has one less", !x.same(1, 2) && !x.same(2, 1));
        x.resize(1, 49);
        Check.isTrue("what was cut off does not count", x.same(1, 2) && x.same(2, 1));
        x.resize(3, 1);
        Check.isTrue("a zero and none", !x.same(3, 0) && !x.same(0, 3));
        x.resize(0, 8192);
        x.resize(7, 8192);
        Check.isTrue("two full ones", x.same(0, 7));
        x.alter(7, 8191, 1);
        Check.isTrue("the last of two full ones differs", !x.same(0, 7) && !x.same(7, 0));
        x.resize(7, 8191);
        Check.isTrue("a full one and one less", !x.same(0, 7) && !x.same(7, 0));
    }

    private static void sameRefuses() {
        Player x = new Player();
        x.load(0, Check.ramp(9, 1, 1));
        x.feed(1, 2, 3, 4, 5);
        for (int slot : NO_SLOTS) {
            Check.refuses(x, "same " + slot + " and 0", () -> x.same(slot, 0), IllegalArgumentException.class);
            Check.refuses(x, "same 0 and " + slot, () -> x.same(0, slot), IllegalArgumentException.class);
            Check.refuses(x, "same " + slot + " and itself", () -> x.same(slot, slot), IllegalArgumentException.class);
        }
    }
}
