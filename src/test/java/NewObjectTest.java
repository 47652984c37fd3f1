/** Promise 1: a new object. */
public final class NewObjectTest {
    public static void main(String[] args) {
        allSlotsAreEmpty();
        theTapeIsEmpty();
        whatNeedsBytesIsRefused();
        objectsShareNothing();
        Check.finish("NewObjectTest");
    }

    /** "All SLOTS .. are empty": no byte is there, not even byte 0. */
    private static void allSlotsAreEmpty() {
        Player x = new Player();
        for (int slot = 0; slot < Check.SLOTS; slot++) {
            int s = slot;
            Check.same("length of slot " + slot, x.length(slot), 0);
            Check.refuses(x, "word 0 of slot " + slot, () -> x.word(s, 0), IndexOutOfBoundsException.class);
            Check.refuses(x, "byte 0 of slot " + slot, () -> x.alter(s, 0, 0), IndexOutOfBoundsException.class);
            for (int other = 0; other < Check.SLOTS; other++) {
                Check.isTrue("slots " + slot + " and " + other + " are the same", x.same(slot, other));
            }
            Check.same("slot " + slot + " had none", x.resize(slot, 0), 0);
            Check.same("slot " + slot + " copied", x.copy(slot, 7 - slot), 0);
        }
    }

    /** "All SLOTS and the TAPE are empty": none can be taken off it, and the first 20 are its first. */
    private static void theTapeIsEmpty() {
        Player x = new Player();
        Check.refuses(x, "one byte of an empty tape", () -> x.end(0, 1), IndexOutOfBoundsException.class);
        Check.refuses(x, "all bytes of an empty tape", () -> x.end(0, 8192), IndexOutOfBoundsException.class);
        Check.same("no byte of an empty tape", x.end(0, 0), 0);
        Check.same("the first 20", x.feed(1, 2, 3, 4, 5), 20);
        Check.same("are the first", x.end(0, 20), 20);
        Check.same("as they were fed", x.word(0, 0), 0x0000000100000002L);
    }

    private static void whatNeedsBytesIsRefused() {
        Player x = new Player();
        for (int set = 0; set < 3; set++) {
            int s = set;
            Check.refuses(x, "keys of no RANDOM", () -> x.dsaKeys(s), IllegalStateException.class);
            for (int how = -1; how <= 0; how++) {
                int h = how;
                Check.refuses(x, "sign with no SECRET", () -> x.dsaSign(s, h), UnsupportedOperationException.class);
                Check.refuses(x, "verify with no PUBLIC", () -> x.dsaVerify(s, h), UnsupportedOperationException.class);
            }
        }
    }

    private static void objectsShareNothing() {
        Player x = new Player();
        x.load(Check.RANDOM, Check.noise(32, 1));
        x.dsaKeys(0);
        x.dsaSign(0, 0);
        x.dsaVerify(0, 0);
        x.feed(1, 2, 3, 4, 5);
        Player y = new Player();
        byte[][] state = y.state();
        for (int i = 0; i < state.length; i++) {
            Check.same("row " + i + " of another object", state[i].length, 0);
        }
        y.feed(9, 9, 9, 9, 9);
        y.resize(Check.SPARE, 5);
        Check.same("the tape of the first", x.feed(1, 2, 3, 4, 5), 40);
        Check.same("a slot of the first", x.length(Check.SPARE), 0);
    }
}
