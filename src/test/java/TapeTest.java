/**
 * Promises 2 and 3: feed and end, with "The TAPE holds BYTES, too, at most 8192".
 *
 * Two boundaries no run of calls reaches: feed brings 20 bytes at a time and end takes all away, so the tape has a
 * multiple of 20 bytes. 8180 is the most that it ever has, never 8181 .. 8192; and end with an n of 8181 .. 8192, which
 * is in range, always finds fewer. What is tested is 8180 and the 8200 that would be next.
 */
public final class TapeTest {
    public static void main(String[] args) {
        feedBringsTheHighestByteFirst();
        feedAnswersTheLength();
        feedUpToTheLimit();
        endWithTheTapeAtItsLimit();
        endTakesWhatThereIs();
        endRefusesMoreThanThereIs();
        endOfNone();
        endIntoEachSlot();
        endTakesTheFirstAndDropsTheRest();
        endReplacesTheSlot();
        endRefusesNumbersOutOfRange();
        Check.finish("TapeTest");
    }

    /** "The 20 BYTES of five ints, the highest of each first". */
    private static void feedBringsTheHighestByteFirst() {
        Player x = new Player();
        x.feed(0x01020304, 0x80ff7f00, -1, 0, Check.LEAST);
        x.feed(0x15161718, Check.GREATEST, 128, -128, 0x191a1b1c);
        Check.same("the tape", Check.hex(x.state()[Check.SLOTS]),
            "01020304" + "80ff7f00" + "ffffffff" + "00000000" + "80000000"
            + "15161718" + "7fffffff" + "00000080" + "ffffff80" + "191a1b1c");
        x.end(3, 40);
        Check.same("word 0", x.word(3, 0), 0x0102030480ff7f00L);
        Check.same("word 12", x.word(3, 12), 0x0000000080000000L);
        Check.same("word 32", x.word(3, 32), 0xffffff80191a1b1cL);
    }

    /** "Answers its length." */
    private static void feedAnswersTheLength() {
        Player x = new Player();
        for (int i = 1; i <= 5; i++) {
            Check.same("feed " + i, x.feed(0, 0, 0, 0, 0), 20 * i);
        }
        x.end(0, 1);
        Check.same("feed after end", x.feed(0, 0, 0, 0, 0), 20);
    }

    private static Player full() {
        Player x = new Player();
        for (int i = 1; i <= 409; i++) {
            Check.same("feed " + i, x.feed(i, -i, i * i, 7, i), 20 * i);
        }
        return x;
    }

    /** "it would have more than 8192: IndexOutOfBoundsException". */
    private static void feedUpToTheLimit() {
        Player x = full();
        for (int i = 0; i < 2; i++) {
            Check.refuses(x, "feed to 8200", () -> x.feed(1, 2, 3, 4, 5), IndexOutOfBoundsException.class);
        }
        Check.same("end of all that is there", x.end(0, 8180), 8180);
        Check.same("the first of them", x.word(0, 0), 0x00000001ffffffffL);
        Check.same("the last of them", x.word(0, 8172), 0x0000000700000199L);
        Check.same("feed after that", x.feed(7, 7, 7, 7, 7), 20);
    }

    private static void endWithTheTapeAtItsLimit() {
        Player x = full();
        Check.refuses(x, "end of 8181", () -> x.end(0, 8181), IndexOutOfBoundsException.class);
        Check.refuses(x, "end of 8192", () -> x.end(0, 8192), IndexOutOfBoundsException.class);
        Check.refuses(x, "end of 8193", () -> x.end(0, 8193), IllegalArgumentException.class);
        Check.same("end of 8179", x.end(0, 8179), 8179);
        Check.same("8179 bytes", x.length(0), 8179);
        Check.same("the last of them", x.word(0, 8172), 0x0000000700000100L);
    }

    /** "the TAPE has fewer": just as many are enough. */
    private static void endTakesWhatThereIs() {
        for (int n : new int[] {1, 19, 20, 21, 39, 40}) {
            Player x = new Player();
            for (int i = 0; i < n; i += 20) {
                x.feed(0x01010101 * (i + 1), 0x02020202, 0x03030303, 0x04040404, 0x05060708);
            }
            Check.same("end of " + n, x.end(2, n), n);
            Check.same("bytes of " + n, x.length(2), n);
            Check.same("the tape after " + n, x.state()[Check.SLOTS].length, 0);
        }
    }

    /** "the TAPE has fewer: IndexOutOfBoundsException": by one, by many. */
    private static void endRefusesMoreThanThereIs() {
        Player x = new Player();
        x.load(4, Check.ramp(5, 1, 1));
        x.feed(1, 2, 3, 4, 5);
        for (int n : new int[] {21, 40, 8180, 8181, 8191, 8192}) {
            Check.refuses(x, "end of " + n + " with 20", () -> x.end(4, n), IndexOutOfBoundsException.class);
        }
        Check.same("the tape stayed", x.feed(6, 7, 8, 9, 10), 40);
        Check.refuses(x, "end of 41 with 40", () -> x.end(4, 41), IndexOutOfBoundsException.class);
        Check.same("end of 40 with 40", x.end(4, 40), 40);
        Check.refuses(x, "end of 1 with none", () -> x.end(4, 1), IndexOutOfBoundsException.class);
    }

    /** n 0: the slot is empty, and so is the tape. */
    private static void endOfNone() {
        Player x = new Player();
        x.load(5, Check.ramp(30, 1, 1));
        Check.same("end of none off an empty tape", x.end(5, 0), 0);
        Check.same("the slot is empty", x.length(5), 0);
        x.load(5, Check.ramp(30, 1, 1));
        x.feed(1, 2, 3, 4, 5);
        Check.same("end of none off a tape of 20", x.end(5, 0), 0);
        Check.same("the slot is empty again", x.length(5), 0);
        Check.refuses(x, "the tape is empty, too", () -> x.end(5, 1), IndexOutOfBoundsException.class);
        Check.same("it starts anew", x.feed(1, 2, 3, 4, 5), 20);
    }

    /** "slot 0 .. 7 (so for all)". */
    private static void endIntoEachSlot() {
        Player x = new Player();
        for (int slot = 0; slot < Check.SLOTS; slot++) {
            x.feed(slot, 0, 0, 0, 0);
            Check.same("end into slot " + slot, x.end(slot, 5 + slot), 5 + slot);
        }
        for (int slot = 0; slot < Check.SLOTS; slot++) {
            Check.same("slot " + slot + " has", x.length(slot), 5 + slot);
            Check.same("slot " + slot + " is", x.word(slot, 0), (long) slot << 32);
        }
    }

    /** "Its first n BYTES are the SLOT; it is empty (what was behind them is gone)." */
    private static void endTakesTheFirstAndDropsTheRest() {
        Player x = new Player();
        x.feed(0x01020304, 0x05060708, 0x090a0b0c, 0, 0);
        Check.same("end of five", x.end(2, 5), 5);
        Check.same("five bytes", Check.hex(x.read(2)), "0102030405");
        Check.refuses(x, "the rest is gone", () -> x.end(2, 1), IndexOutOfBoundsException.class);
        Check.same("a new tape", x.feed(0x11121314, 0, 0, 0, 0), 20);
        Check.same("end of two", x.end(2, 2), 2);
        Check.same("two bytes", Check.hex(x.read(2)), "1112");
    }

    private static void endReplacesTheSlot() {
        Player x = new Player();
        x.load(1, Check.ramp(60, 1, 1));
        x.load(1, Check.ramp(3, 100, 1));
        Check.same("a shorter row", Check.hex(x.read(1)), "646566");
        x.resize(1, 60);
        Check.same("nothing of the longer one comes back", Check.hex(x.read(1)), "646566" + "00".repeat(57));
        x.load(1, Check.ramp(80, 1, 1));
        Check.bytes("a longer row", x.read(1), Check.ramp(80, 1, 1));
    }

    /** "slot 0 .. 7 (so for all), n 0 .. 8192": and these come before what the tape has. */
    private static void endRefusesNumbersOutOfRange() {
        Player x = new Player();
        x.feed(1, 2, 3, 4, 5);
        int[][] bad = {{-1, 1}, {8, 1}, {Check.LEAST, 1}, {Check.GREATEST, 1}, {0, -1}, {7, -1}, {0, 8193}, {7, 8193},
            {0, Check.LEAST}, {0, Check.GREATEST}, {-1, -1}, {8, 8193}, {-1, 21}, {8, 21}, {8, 8192}, {-1, 0}, {8, 0}};
        for (int[] b : bad) {
            Check.refuses(x, "end " + b[0] + " " + b[1], () -> x.end(b[0], b[1]), IllegalArgumentException.class);
        }
        Check.same("the tape stayed", x.end(7, 20), 20);
    }
}
