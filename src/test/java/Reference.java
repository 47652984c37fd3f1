import java.io.ByteArrayOutputStream;
import java.util.ArrayList;
import java.util.Arrays;
import java.util.List;

/**
 * The document's terms, word for word and without haste: what the tests hold the class against. It is held against
 * OpenSSL itself by the marks in KeysTest, SignTest and VerifyTest.
 */
final class Reference {
    static final int Q = 8380417;
    static final int MOST_TRIPLES = 298;
    static final int MOST_SMALL_BYTES = 481;
    static final int MOST_BALL_BYTES = 121;
    static final int MOST_TRIES = 814;
    private static final int[] POWERS = powers();
    private static final int[][] TURNS = turns();
    private static final long[] ROUNDS = rounds();

    final int k;
    final int l;
    final int e;
    final int t;
    final int g1;
    final int g2;
    final int w;
    final int c;
    /** B and M. */
    final int bound;
    final int highs;
    final int smallBits;
    final int maskBits;
    final int highBits;
    final int publicSize;
    final int secretSize;
    final int packetSize;

    Reference(int set) {
        k = new int[] {4, 6, 8}[set];
        l = new int[] {4, 5, 7}[set];
        e = new int[] {2, 4, 2}[set];
        t = new int[] {39, 49, 60}[set];
        g1 = new int[] {1 << 17, 1 << 19, 1 << 19}[set];
        g2 = (Q - 1) / new int[] {88, 32, 32}[set];
        w = new int[] {80, 55, 75}[set];
        c = new int[] {32, 48, 64}[set];
        bound = t * e;
        highs = (Q - 1) / (2 * g2);
        smallBits = e == 4 ? 4 : 3;
        maskBits = g1 == 1 << 19 ? 20 : 18;
        highBits = g2 == (Q - 1) / 32 ? 4 : 6;
        publicSize = 32 + 320 * k;
        secretSize = 128 + 32 * smallBits * (l + k) + 416 * k;
        packetSize = c + 32 * maskBits * l + w + k;
    }

    // SPONGE

    static byte[] sponge(int rate, int suffix, byte[] x, int n) {
        byte[] padded = Arrays.copyOf(x, (x.length / rate + 1) * rate);
        padded[x.length] = (byte) suffix;
        padded[padded.length - 1] ^= (byte) 128;
        long[][] lanes = new long[5][5];
        for (int from = 0; from < padded.length; from += rate) {
            for (int i = 0; i < rate; i++) {
                lanes[i / 8 % 5][i / 40] ^= (padded[from + i] & 255L) << 8 * (i % 8);
            }
            permute(lanes);
        }
        byte[] out = new byte[n];
        for (int i = 0; i < n; i++) {
            int place = i % rate;
            if (i > 0 && place == 0) {
                permute(lanes);
            }
            out[i] = (byte) (lanes[place / 8 % 5][place / 40] >>> 8 * (place % 8));
        }
        return out;
    }

    private static void permute(long[][] lanes) {
        long[][] moved = new long[5][5];
        long[] columns = new long[5];
        for (long round : ROUNDS) {
            for (int a = 0; a < 5; a++) {
                columns[a] = lanes[a][0] ^ lanes[a][1] ^ lanes[a][2] ^ lanes[a][3] ^ lanes[a][4];
            }
            for (int a = 0; a < 5; a++) {
                long change = columns[(a + 4) % 5] ^ Long.rotateLeft(columns[(a + 1) % 5], 1);
                for (int b = 0; b < 5; b++) {
                    moved[b][(2 * a + 3 * b) % 5] = Long.rotateLeft(lanes[a][b] ^ change, TURNS[a][b]);
                }
            }
            for (int a = 0; a < 5; a++) {
                for (int b = 0; b < 5; b++) {
                    lanes[a][b] = moved[a][b] ^ (~moved[(a + 1) % 5][b] & moved[(a + 2) % 5][b]);
                }
            }
            lanes[0][0] ^= round;
        }
    }

    private static int[][] turns() {
        int[][] turns = new int[5][5];
        int a = 1;
        int b = 0;
        for (int i = 0; i < 24; i++) {
            turns[a][b] = (i + 1) * (i + 2) / 2 % 64;
            int next = (2 * a + 3 * b) % 5;
            a = b;
            b = next;
        }
        return turns;
    }

    private static long[] rounds() {
        int[] bits = new int[255];
        int value = 1;
        for (int i = 0; i < 255; i++) {
            bits[i] = value & 1;
            value <<= 1;
            value = value > 255 ? value & 255 ^ 113 : value;
        }
        long[] rounds = new long[24];
        for (int i = 0; i < 24; i++) {
            for (int j = 0; j < 7; j++) {
                rounds[i] |= (long) bits[(j + 7 * i) % 255] << (1 << j) - 1;
            }
        }
        return rounds;
    }

    static byte[] shake128(byte[] x, int n) {
        return sponge(168, 31, x, n);
    }

    /** H of its parts. */
    static byte[] h(int n, byte[]... parts) {
        return sponge(136, 31, join(parts), n);
    }

    static byte[] join(byte[]... parts) {
        ByteArrayOutputStream all = new ByteArrayOutputStream();
        for (byte[] part : parts) {
            all.writeBytes(part);
        }
        return all.toByteArray();
    }

    static byte[] part(byte[] bytes, int from, int n) {
        return Arrays.copyOfRange(bytes, from, from + n);
    }

    private static byte[] two(int low, int high) {
        return new byte[] {(byte) low, (byte) high};
    }

    // POLYNOMIALS

    private static int[] powers() {
        int[] powers = new int[512];
        long power = 1;
        for (int i = 0; i < 512; i++) {
            powers[i] = (int) power;
            power = power * 1753 % Q;
        }
        return powers;
    }

    private static int exponent(int i) {
        return 2 * (Integer.reverse(i) >>> 24) + 1;
    }

    static int[] ntt(int[] f) {
        int[] g = new int[256];
        for (int i = 0; i < 256; i++) {
            long sum = 0;
            for (int j = 0; j < 256; j++) {
                sum += (long) f[j] * POWERS[exponent(i) * j % 512];
            }
            g[i] = (int) (sum % Q);
        }
        return g;
    }

    static int[] unntt(int[] g) {
        int[] f = new int[256];
        for (int j = 0; j < 256; j++) {
            long sum = 0;
            for (int i = 0; i < 256; i++) {
                sum += (long) g[i] * POWERS[(512 - exponent(i) * j % 512) % 512];
            }
            // 8347681 is 1 / 256.
            f[j] = (int) (sum % Q * 8347681 % Q);
        }
        return f;
    }

    /** The product of a polynomial that is mostly 0 with another. */
    static int[] times(int[] sparse, int[] f) {
        long[] sums = new long[256];
        for (int i = 0; i < 256; i++) {
            long factor = signed(sparse[i]);
            for (int j = 0; factor != 0 && j < 256; j++) {
                int place = i + j;
                sums[place % 256] += (place < 256 ? factor : -factor) * f[j];
            }
        }
        int[] product = new int[256];
        for (int i = 0; i < 256; i++) {
            product[i] = (int) Math.floorMod(sums[i], (long) Q);
        }
        return product;
    }

    static int[] sum(int[] f, int[] g, int sign) {
        int[] sum = new int[256];
        for (int i = 0; i < 256; i++) {
            sum[i] = Math.floorMod(f[i] + sign * g[i], Q);
        }
        return sum;
    }

    /** As -(q - 1) / 2 .. (q - 1) / 2. */
    static int signed(int value) {
        return value > (Q - 1) / 2 ? value - Q : value;
    }

    static byte[] bits(int[] f, int d) {
        byte[] bytes = new byte[32 * d];
        for (int bit = 0; bit < 256 * d; bit++) {
            bytes[bit / 8] |= (byte) ((f[bit / d] >> bit % d & 1) << bit % 8);
        }
        return bytes;
    }

    static int[] unbits(byte[] bytes, int from, int d) {
        int[] f = new int[256];
        for (int bit = 0; bit < 256 * d; bit++) {
            f[bit / d] |= (bytes[from + bit / 8] >> bit % 8 & 1) << bit % d;
        }
        return f;
    }

    static byte[] pack(int[] f, int b, int d) {
        int[] mirrored = new int[256];
        for (int i = 0; i < 256; i++) {
            mirrored[i] = b - signed(f[i]);
        }
        return bits(mirrored, d);
    }

    static int[] unpack(byte[] bytes, int from, int b, int d) {
        int[] f = unbits(bytes, from, d);
        for (int i = 0; i < 256; i++) {
            f[i] = Math.floorMod(b - f[i], Q);
        }
        return f;
    }

    // SAMPLE, SMALL, BALL

    static int triple(byte[] stream, int i) {
        return (stream[3 * i] & 255) + 256 * (stream[3 * i + 1] & 255) + 65536 * (stream[3 * i + 2] & 127);
    }

    static byte[] sampleStream(byte[] key, int i, int j) {
        return shake128(join(part(key, 0, 32), two(j, i)), 3 * MOST_TRIPLES);
    }

    /** How many triples of the stream SAMPLE takes, and the polynomial that they give. */
    static int sample(byte[] stream, int[] f) {
        int filled = 0;
        int taken = 0;
        while (taken < MOST_TRIPLES && filled < 256) {
            int value = triple(stream, taken++);
            if (value < Q) {
                f[filled++] = value;
            }
        }
        needAll(filled);
        return taken;
    }

    private static void needAll(int filled) {
        if (filled < 256) {
            throw new ArithmeticException();
        }
    }

    int[][][] matrix(byte[] key) {
        int[][][] matrix = new int[k][l][256];
        for (int i = 0; i < k; i++) {
            for (int j = 0; j < l; j++) {
                sample(sampleStream(key, i, j), matrix[i][j]);
            }
        }
        return matrix;
    }

    static byte[] smallStream(byte[] s, int number) {
        return h(MOST_SMALL_BYTES, s, two(number, number >> 8));
    }

    /** How many bytes of the stream SMALL takes, and the polynomial that they give. */
    int small(byte[] stream, int[] f) {
        int filled = 0;
        int taken = 0;
        while (taken < MOST_SMALL_BYTES && filled < 256) {
            int value = stream[taken++] & 255;
            for (int v : new int[] {value % 16, value / 16}) {
                if (filled < 256 && v < (e == 2 ? 15 : 9)) {
                    f[filled++] = Math.floorMod(e == 2 ? 2 - v % 5 : 4 - v, Q);
                }
            }
        }
        needAll(filled);
        return taken;
    }

    /** A ball, how many bytes behind the first 8 it took, and whether one of them was just i, or just above it. */
    static final class Ball {
        final int[] f = new int[256];
        int taken;
        boolean justIn;
        boolean justOut;
    }

    Ball ball(byte[] challenge) {
        byte[] stream = h(8 + MOST_BALL_BYTES, challenge);
        Ball ball = new Ball();
        for (int i = 256 - t; i < 256; i++) {
            int j = 256;
            while (j > i) {
                if (ball.taken == MOST_BALL_BYTES) {
                    throw new ArithmeticException();
                }
                j = stream[8 + ball.taken++] & 255;
                ball.justIn |= j == i;
                ball.justOut |= j == i + 1;
            }
            int bit = i + t - 256;
            ball.f[i] = ball.f[j];
            ball.f[j] = (stream[bit / 8] >> bit % 8 & 1) == 1 ? Q - 1 : 1;
        }
        return ball;
    }

    // HIGH, LOW

    /** LOW before it is looked at whether HIGH would be M. */
    int plainLow(int r) {
        int low = r % (2 * g2);
        return low > g2 ? low - 2 * g2 : low;
    }

    int low(int r) {
        return r - plainLow(r) == Q - 1 ? plainLow(r) - 1 : plainLow(r);
    }

    int high(int r) {
        return r - plainLow(r) == Q - 1 ? 0 : (r - plainLow(r)) / (2 * g2);
    }

    int hintedHigh(int r) {
        return Math.floorMod(high(r) + (low(r) > 0 ? 1 : -1), highs);
    }

    // KEYS

    /** P and D, and the T that they came of. */
    record Keys(byte[] publicKey, byte[] secretKey, int[][] images) {
    }

    /** r, s and K. */
    byte[] seeds(byte[] x) {
        return h(128, x, two(k, l));
    }

    Keys keys(byte[] x) {
        byte[] seeds = seeds(x);
        int[][][] matrix = matrix(seeds);
        int[][] secrets = smalls(seeds, 0, l);
        int[][] errors = smalls(seeds, l, k);
        int[][] images = multiply(matrix, ntts(secrets));
        byte[] tops = new byte[0];
        byte[] drops = new byte[0];
        for (int i = 0; i < k; i++) {
            images[i] = sum(images[i], errors[i], 1);
            int[] top = new int[256];
            int[] drop = new int[256];
            for (int j = 0; j < 256; j++) {
                drop[j] = images[i][j] % 8192 > 4096 ? images[i][j] % 8192 - 8192 : images[i][j] % 8192;
                top[j] = (images[i][j] - drop[j]) / 8192;
                drop[j] = Math.floorMod(drop[j], Q);
            }
            tops = join(tops, bits(top, 10));
            drops = join(drops, pack(drop, 4096, 13));
        }
        byte[] publicKey = join(part(seeds, 0, 32), tops);
        byte[] secretKey = join(part(seeds, 0, 32), part(seeds, 96, 32), h(64, publicKey),
            packAll(secrets, e, smallBits), packAll(errors, e, smallBits), drops);
        return new Keys(publicKey, secretKey, images);
    }

    private int[][] smalls(byte[] seeds, int from, int n) {
        int[][] rows = new int[n][256];
        for (int i = 0; i < n; i++) {
            small(smallStream(part(seeds, 32, 64), from + i), rows[i]);
        }
        return rows;
    }

    static byte[] packAll(int[][] rows, int b, int d) {
        byte[] all = new byte[0];
        for (int[] row : rows) {
            all = join(all, pack(row, b, d));
        }
        return all;
    }

    private static int[][] ntts(int[][] rows) {
        int[][] turned = new int[rows.length][];
        for (int i = 0; i < rows.length; i++) {
            turned[i] = ntt(rows[i]);
        }
        return turned;
    }

    private int[][] multiply(int[][][] matrix, int[][] vector) {
        int[][] images = new int[k][];
        for (int i = 0; i < k; i++) {
            int[] row = new int[256];
            for (int n = 0; n < 256; n++) {
                long sum = 0;
                for (int j = 0; j < l; j++) {
                    sum += (long) matrix[i][j][n] * vector[j][n];
                }
                row[n] = (int) (sum % Q);
            }
            images[i] = unntt(row);
        }
        return images;
    }

    // SIGN

    /** What one try came to: the least and the greatest of Z, LOW of X and b T0, and the places of the hints. */
    static final class Try {
        int leastAnswer;
        int mostAnswer;
        int leastLow;
        int mostLow;
        /** As LOW, but not less by 1 where HIGH would be M. */
        int leastPlainLow;
        int leastDrop;
        int mostDrop;
        int hintCount;
        int[][] hints;
        /** How many bytes behind the first 8 BALL took. */
        int ballBytes;
        byte[] signature;
    }

    /** The tries, the last of which held. */
    List<Try> sign(byte[] secret, byte[] x, byte[] n) {
        byte[] m = h(64, part(secret, 64, 64), x);
        byte[] o = h(64, part(secret, 32, 32), n, m);
        int[][][] matrix = matrix(secret);
        int[][] secrets = unpackAll(secret, 128, l, e, smallBits);
        int[][] errors = unpackAll(secret, 128 + 32 * smallBits * l, k, e, smallBits);
        int[][] drops = unpackAll(secret, 128 + 32 * smallBits * (l + k), k, 4096, 13);
        List<Try> tries = new ArrayList<>();
        for (int i = 0; i < MOST_TRIES; i++) {
            Try one = attempt(m, masks(o, i * l), matrix, secrets, errors, drops);
            tries.add(one);
            if (holds(one)) {
                return tries;
            }
        }
        throw new ArithmeticException();
    }

    private int[][] masks(byte[] o, int a) {
        int[][] masks = new int[l][];
        for (int i = 0; i < l; i++) {
            masks[i] = unpack(h(32 * maskBits, o, two(a + i, a + i >> 8)), 0, g1, maskBits);
        }
        return masks;
    }

    private static int[][] unpackAll(byte[] bytes, int from, int n, int b, int d) {
        int[][] rows = new int[n][];
        for (int i = 0; i < n; i++) {
            rows[i] = unpack(bytes, from + 32 * d * i, b, d);
        }
        return rows;
    }

    private Try attempt(byte[] m, int[][] masks, int[][][] matrix, int[][] secrets, int[][] errors, int[][] drops) {
        Try one = new Try();
        int[][] images = multiply(matrix, ntts(masks));
        byte[] challenge = h(c, m, packHighs(images, new int[k][0]));
        Ball cast = ball(challenge);
        int[] ball = cast.f;
        one.ballBytes = cast.taken;
        int[][] answers = new int[l][];
        for (int i = 0; i < l; i++) {
            answers[i] = sum(masks[i], times(ball, secrets[i]), 1);
            for (int value : answers[i]) {
                one.leastAnswer = Math.min(one.leastAnswer, signed(value));
                one.mostAnswer = Math.max(one.mostAnswer, signed(value));
            }
        }
        one.hints = new int[k][];
        for (int i = 0; i < k; i++) {
            int[] rest = sum(images[i], times(ball, errors[i]), -1);
            one.hints[i] = look(one, rest, times(ball, drops[i]));
            one.hintCount += one.hints[i].length;
        }
        if (holds(one)) {
            one.signature = join(challenge, packAll(answers, g1, maskBits), packHints(one.hints));
        }
        return one;
    }

    /** Writes down the lows and the drops of one polynomial; answers the places of its hints. */
    private int[] look(Try one, int[] rest, int[] drop) {
        int[] places = new int[256];
        int count = 0;
        for (int j = 0; j < 256; j++) {
            one.leastLow = Math.min(one.leastLow, low(rest[j]));
            one.mostLow = Math.max(one.mostLow, low(rest[j]));
            one.leastPlainLow = Math.min(one.leastPlainLow, plainLow(rest[j]));
            one.leastDrop = Math.min(one.leastDrop, signed(drop[j]));
            one.mostDrop = Math.max(one.mostDrop, signed(drop[j]));
            if (high((rest[j] + drop[j]) % Q) != high(rest[j])) {
                places[count++] = j;
            }
        }
        return Arrays.copyOf(places, count);
    }

    boolean answersHold(Try one) {
        return one.mostAnswer < g1 - bound && -one.leastAnswer < g1 - bound;
    }

    boolean lowsHold(Try one) {
        return one.mostLow < g2 - bound && -one.leastLow < g2 - bound;
    }

    boolean dropsHold(Try one) {
        return one.mostDrop < g2 && -one.leastDrop < g2;
    }

    boolean hintsHold(Try one) {
        return one.hintCount <= w;
    }

    boolean holds(Try one) {
        return answersHold(one) && lowsHold(one) && dropsHold(one) && hintsHold(one);
    }

    /** The w + k bytes of at most w hints. */
    byte[] packHints(int[][] hints) {
        byte[] packed = new byte[w + k];
        int count = 0;
        for (int i = 0; i < k; i++) {
            for (int place : hints[i]) {
                packed[count++] = (byte) place;
            }
            packed[w + i] = (byte) count;
        }
        return packed;
    }

    private byte[] packHighs(int[][] images, int[][] hints) {
        byte[] all = new byte[0];
        for (int i = 0; i < k; i++) {
            int[] row = new int[256];
            for (int j = 0; j < 256; j++) {
                row[j] = high(images[i][j]);
            }
            for (int place : hints[i]) {
                row[place] = hintedHigh(images[i][place]);
            }
            all = join(all, bits(row, highBits));
        }
        return all;
    }

    // VERIFY

    /** What is compared with C, and null where it does not come so far. */
    byte[] compared(byte[] key, byte[] x, byte[] packet) {
        int[][] hints = packet.length == packetSize ? readHints(packet) : null;
        if (hints == null) {
            return null;
        }
        for (int[] answer : readAnswers(packet)) {
            for (int value : answer) {
                if (Math.abs(signed(value)) >= g1 - bound) {
                    return null;
                }
            }
        }
        return found(key, x, packet, hints);
    }

    /** What would be compared with C if neither sizes nor limits were looked at. */
    byte[] found(byte[] key, byte[] x, byte[] packet, int[][] hints) {
        return h(c, h(64, h(64, key), x), packHighs(images(key, packet), hints));
    }

    /** X. */
    int[][] images(byte[] key, byte[] packet) {
        int[] ball = ball(part(packet, 0, c)).f;
        int[][] images = multiply(matrix(key), ntts(readAnswers(packet)));
        for (int i = 0; i < k; i++) {
            int[] top = unbits(key, 32 + 320 * i, 10);
            for (int j = 0; j < 256; j++) {
                top[j] *= 8192;
            }
            images[i] = sum(images[i], times(ball, top), -1);
        }
        return images;
    }

    private int[][] readAnswers(byte[] packet) {
        return unpackAll(packet, c, l, g1, maskBits);
    }

    /** The places of the hints, and null if they are not written as they should be. */
    private int[][] readHints(byte[] packet) {
        int start = packetSize - w - k;
        int[][] hints = new int[k][];
        int from = 0;
        for (int i = 0; i < k; i++) {
            int to = packet[start + w + i] & 255;
            if (to < from || to > w) {
                return null;
            }
            hints[i] = new int[to - from];
            for (int j = from; j < to; j++) {
                hints[i][j - from] = packet[start + j] & 255;
                if (j > from && hints[i][j - from] <= hints[i][j - from - 1]) {
                    return null;
                }
            }
            from = to;
        }
        for (int j = from; j < w; j++) {
            if (packet[start + j] != 0) {
                return null;
            }
        }
        return hints;
    }

    /** SIGNED x. */
    static byte[] signed(int how, byte[] context, byte[] message) {
        return how == -1 ? message : join(two(0, context.length), context, message);
    }
}
