/** Promises 1 to 9: a new object, the tape and the slots. */
public final class SlotsTest {
    public static void main(String[] args) {
        newObject();
        feed();
        feedUpToTheLimit();
        end();
        endTakesTheFirstAndDropsTheRest();
        copy();
        resize();
        alter();
        length();
        word();
        same();
        objectsShareNothing();
        Check.finish("SlotsTest");
    }

    private static void newObject() {
        ModuleSigner x = new ModuleSigner();
        for (int i = 0; i < Check.SLOTS; i++) {
            Check.same("new: length " + i, x.length(i), 0);
        }
        Check.refuses(x, "new: the tape is empty", () -> x.end(0, 1), IndexOutOfBoundsException.class);
        Check.same("new: end of nothing", x.end(0, 0), 0);
    }

    private static void feed() {
        ModuleSigner x = new ModuleSigner();
        Check.same("feed once", x.feed(0x01020304, 0x80ff7f00, -1, 0, Integer.MIN_VALUE), 20);
        Check.same("feed twice", x.feed(0x15161718, 0, 0, 0, 0x191a1b1c), 40);
        x.end(3, 40);
        Check.same("feed: the bytes", Check.hex(Check.read(x, 3)),
            "0102030480ff7f00ffffffff00000000800000001516171800000000000000000000000019" + "1a1b1c");
    }

    private static void feedUpToTheLimit() {
        ModuleSigner x = new ModuleSigner();
        for (int i = 1; i <= 409; i++) {
            Check.same("feed " + i, x.feed(i, i, i, i, i), 20 * i);
        }
        for (int i = 0; i < 2; i++) {
            Check.refuses(x, "feed over the limit", () -> x.feed(1, 2, 3, 4, 5), IndexOutOfBoundsException.class);
        }
        Check.refuses(x, "the tape has not 8181", () -> x.end(0, 8181), IndexOutOfBoundsException.class);
        Check.refuses(x, "the tape has not 8192", () -> x.end(0, 8192), IndexOutOfBoundsException.class);
        Check.same("end of a full tape", x.end(0, 8180), 8180);
        Check.same("the last of a full tape", x.word(0, 8176), 409L << 32);
        Check.same("feed after end", x.feed(7, 7, 7, 7, 7), 20);
    }

    private static void end() {
        ModuleSigner x = new ModuleSigner();
        x.feed(1, 2, 3, 4, 5);
        Check.refuses(x, "end: slot 8", () -> x.end(8, 1), IllegalArgumentException.class);
        Check.refuses(x, "end: slot -1", () -> x.end(-1, 1), IllegalArgumentException.class);
        Check.refuses(x, "end: n -1", () -> x.end(0, -1), IllegalArgumentException.class);
        Check.refuses(x, "end: n 8193", () -> x.end(0, 8193), IllegalArgumentException.class);
        Check.refuses(x, "end: the slot comes first", () -> x.end(8, 21), IllegalArgumentException.class);
        Check.refuses(x, "end: n least", () -> x.end(0, Integer.MIN_VALUE), IllegalArgumentException.class);
        Check.refuses(x, "end: n greatest", () -> x.end(0, Integer.MAX_VALUE), IllegalArgumentException.class);
        Check.refuses(x, "end: n 21", () -> x.end(0, 21), IndexOutOfBoundsException.class);
        Check.same("the tape stayed", x.feed(6, 7, 8, 9, 10), 40);
        Check.same("end", x.end(7, 40), 40);
        Check.same("end: the bytes", x.word(7, 36), 10L << 32);
    }

    private static void endTakesTheFirstAndDropsTheRest() {
        ModuleSigner x = new ModuleSigner();
        x.feed(0x01020304, 0x05060708, 0x090a0b0c, 0, 0);
        Check.same("end of five", x.end(2, 5), 5);
        Check.same("five bytes", Check.hex(Check.read(x, 2)), "0102030405");
        Check.refuses(x, "the rest is gone", () -> x.end(2, 1), IndexOutOfBoundsException.class);
        Check.same("a new tape", x.feed(0x11121314, 0, 0, 0, 0), 20);
        Check.same("end of two", x.end(2, 2), 2);
        Check.same("two bytes", Check.hex(Check.read(x, 2)), "1112");
        x.feed(1, 1, 1, 1, 1);
        Check.same("end of none", x.end(2, 0), 0);
        Check.same("none", x.length(2), 0);
        Check.refuses(x, "end of none drops the tape", () -> x.end(2, 1), IndexOutOfBoundsException.class);
    }

    private static void copy() {
        ModuleSigner x = new ModuleSigner();
        Check.load(x, 1, Check.ramp(100, 3, 7));
        Check.load(x, 6, Check.ramp(300, 1, 1));
        Check.same("copy", x.copy(1, 6), 100);
        Check.isTrue("copy: the same", x.same(1, 6));
        Check.same("copy: the length", x.length(6), 100);
        x.alter(6, 0, 255);
        Check.same("a copy is its own", x.word(1, 0), 0x030a11181f262d34L);
        Check.same("copy on itself", x.copy(1, 1), 100);
        Check.same("copy on itself: the bytes", Check.hex(Check.read(x, 1)), Check.hex(Check.ramp(100, 3, 7)));
        Check.same("copy of none", x.copy(0, 1), 0);
        Check.same("copy of none: the length", x.length(1), 0);
        Check.load(x, 5, Check.noise(8192, 4));
        Check.same("copy of all", x.copy(5, 4), 8192);
        Check.isTrue("copy of all: the same", x.same(4, 5));
        int[][] bad = {{-1, 0}, {8, 0}, {0, -1}, {0, 8}, {Integer.MIN_VALUE, 0}, {0, Integer.MAX_VALUE}};
        for (int[] b : bad) {
            Check.refuses(x, "copy " + b[0] + " " + b[1], () -> x.copy(b[0], b[1]), IllegalArgumentException.class);
        }
    }

    private static void resize() {
        ModuleSigner x = new ModuleSigner();
        Check.load(x, 4, Check.ramp(20, 1, 1));
        Check.same("resize to 5", x.resize(4, 5), 20);
        Check.same("resize to 9", x.resize(4, 9), 5);
        Check.same("what was cut off stays off", Check.hex(Check.read(x, 4)), "010203040500000000");
        Check.same("resize to all", x.resize(4, 8192), 9);
        Check.same("the last byte", x.word(4, 8191), 0L);
        Check.same("resize to the same", x.resize(4, 8192), 8192);
        Check.same("resize to none", x.resize(4, 0), 8192);
        Check.same("resize from none", x.resize(4, 8), 0);
        Check.same("all zeros", x.word(4, 0), 0L);
        // A shorter row that comes into a slot must not show what stood behind it before.
        Check.load(x, 3, Check.ramp(64, 200, 1));
        x.copy(4, 3);
        x.resize(3, 64);
        Check.same("zeros behind a copy", Check.hex(Check.read(x, 3)), "00".repeat(64));
        int[][] bad = {{-1, 0}, {8, 0}, {0, -1}, {0, 8193}, {0, Integer.MIN_VALUE}, {0, Integer.MAX_VALUE}};
        for (int[] b : bad) {
            Check.refuses(x, "resize " + b[0] + " " + b[1], () -> x.resize(b[0], b[1]), IllegalArgumentException.class);
        }
    }

    private static void alter() {
        ModuleSigner x = new ModuleSigner();
        Check.load(x, 1, Check.ramp(20, 250, 1));
        Check.same("alter", x.alter(1, 0, 15), 245);
        Check.same("alter by 0", x.alter(1, 19, 0), 13);
        Check.same("alter by 255", x.alter(1, 19, 255), 242);
        Check.same("alter back", x.alter(1, 19, 255), 13);
        Check.same("only these", x.word(1, 0), 0xf5fbfcfdfeff0001L);
        Check.refuses(x, "alter 20", () -> x.alter(1, 20, 1), IndexOutOfBoundsException.class);
        Check.refuses(x, "alter -1", () -> x.alter(1, -1, 1), IndexOutOfBoundsException.class);
        Check.refuses(x, "alter least", () -> x.alter(1, Integer.MIN_VALUE, 1), IndexOutOfBoundsException.class);
        Check.refuses(x, "alter greatest", () -> x.alter(1, Integer.MAX_VALUE, 1), IndexOutOfBoundsException.class);
        Check.refuses(x, "alter none", () -> x.alter(0, 0, 1), IndexOutOfBoundsException.class);
        x.resize(1, 3);
        Check.refuses(x, "alter what was cut off", () -> x.alter(1, 3, 1), IndexOutOfBoundsException.class);
        int[][] bad = {{-1, 0, 0}, {8, 0, 0}, {1, 0, -1}, {1, 0, 256}, {1, 99, 256}, {8, 99, 0}, {1, -1, -1},
            {1, 0, Integer.MIN_VALUE}, {1, 0, Integer.MAX_VALUE}};
        for (int[] b : bad) {
            Check.refuses(x, "alter " + b[0] + " " + b[1] + " " + b[2], () -> x.alter(b[0], b[1], b[2]),
                IllegalArgumentException.class);
        }
    }

    private static void length() {
        ModuleSigner x = new ModuleSigner();
        for (int i = 0; i < Check.SLOTS; i++) {
            x.resize(i, 1000 + i);
        }
        for (int i = 0; i < Check.SLOTS; i++) {
            Check.same("length " + i, x.length(i), 1000 + i);
        }
        for (int slot : new int[] {-1, 8, Integer.MIN_VALUE, Integer.MAX_VALUE}) {
            Check.refuses(x, "length " + slot, () -> x.length(slot), IllegalArgumentException.class);
        }
    }

    private static void word() {
        ModuleSigner x = new ModuleSigner();
        Check.load(x, 2, Check.ramp(20, 0xf1, 1));
        Check.same("word 0", x.word(2, 0), 0xf1f2f3f4f5f6f7f8L);
        Check.same("word 12", x.word(2, 12), 0xfdfeff0001020304L);
        Check.same("word 13", x.word(2, 13), 0xfeff000102030400L);
        Check.same("word 19", x.word(2, 19), 0x0400000000000000L);
        x.resize(2, 10);
        Check.same("word behind a cut", x.word(2, 8), 0xf9fa000000000000L);
        Check.refuses(x, "word 10", () -> x.word(2, 10), IndexOutOfBoundsException.class);
        Check.refuses(x, "word -1", () -> x.word(2, -1), IndexOutOfBoundsException.class);
        Check.refuses(x, "word least", () -> x.word(2, Integer.MIN_VALUE), IndexOutOfBoundsException.class);
        Check.refuses(x, "word greatest", () -> x.word(2, Integer.MAX_VALUE), IndexOutOfBoundsException.class);
        Check.refuses(x, "word of none", () -> x.word(0, 0), IndexOutOfBoundsException.class);
        Check.refuses(x, "word of slot 8", () -> x.word(8, 0), IllegalArgumentException.class);
        Check.refuses(x, "word of slot -1", () -> x.word(-1, -1), IllegalArgumentException.class);
        Check.load(x, 2, Check.ramp(8192, 1, 1));
        Check.same("word at the very end", x.word(2, 8191), 0L);
        Check.same("word before it", x.word(2, 8185), 0xfafbfcfdfeff0000L);
    }

    private static void same() {
        ModuleSigner x = new ModuleSigner();
        Check.isTrue("two empty ones", x.same(0, 7));
        Check.load(x, 1, Check.ramp(50, 9, 3));
        Check.load(x, 2, Check.ramp(50, 9, 3));
        Check.isTrue("equal ones", x.same(1, 2));
        Check.isTrue("one and itself", x.same(1, 1));
        x.alter(2, 49, 1);
        Check.isTrue("the last differs", !x.same(1, 2));
        x.alter(2, 49, 1);
        x.alter(2, 0, 128);
        Check.isTrue("the first differs", !x.same(2, 1));
        x.alter(2, 0, 128);
        x.resize(2, 51);
        Check.isTrue("one has a zero more", !x.same(1, 2) && !x.same(2, 1));
        Check.isTrue("one has none", !x.same(1, 0) && !x.same(0, 1));
        int[][] bad = {{-1, 0}, {8, 0}, {0, -1}, {0, 8}, {8, 8}};
        for (int[] b : bad) {
            Check.refuses(x, "same " + b[0] + " " + b[1], () -> x.same(b[0], b[1]), IllegalArgumentException.class);
        }
    }

    private static void objectsShareNothing() {
        ModuleSigner x = new ModuleSigner();
        ModuleSigner y = new ModuleSigner();
        x.feed(1, 2, 3, 4, 5);
        x.resize(3, 40);
        Check.same("another's slot", y.length(3), 0);
        Check.same("another's tape", y.feed(1, 2, 3, 4, 5), 20);
    }
}
