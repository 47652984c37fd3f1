/** Signatures over modules of polynomials (FIPS 204) at its three parameter sets, on slots of bytes. */
public final class ModuleSigner {
    private static final int SLOTS = 8;
    private static final int ROOM = 8192;
    private static final int SETS = 3;
    private static final int RANDOM = 0;
    private static final int PUBLIC = 1;
    private static final int SECRET = 2;
    private static final int MESSAGE = 3;
    private static final int CONTEXT = 4;
    private static final int PACKET = 5;
    private static final int SHARED = 6;
    private static final int SEED_SIZE = 32;
    private static final int HASH_SIZE = 64;
    private static final int FED_SIZE = 20;
    private static final int LONGEST_CONTEXT = 255;

    private final Bytes[] slots;
    private final Bytes tape;
    private final Parameters[] sets;
    private final KeyMaker keyMaker;
    private final Signer signer;
    private final Verifier verifier;

    public ModuleSigner() {
        slots = new Bytes[SLOTS];
        for (int i = 0; i < SLOTS; i++) {
            slots[i] = new Bytes(ROOM);
        }
        tape = new Bytes(ROOM);
        sets = new Parameters[SETS];
        for (int i = 0; i < SETS; i++) {
            sets[i] = new Parameters(i);
        }
        // One bench for all three: its rows are the dearest thing here, and no two of them work at once.
        Bench bench = new Bench();
        keyMaker = new KeyMaker(bench);
        signer = new Signer(bench);
        verifier = new Verifier(bench);
    }

    public int feed(int a, int b, int c, int d, int e) throws IndexOutOfBoundsException {
        if (tape.count > ROOM - FED_SIZE) {
            throw new IndexOutOfBoundsException("the tape is full");
        }
        tape.addInt(a);
        tape.addInt(b);
        tape.addInt(c);
        tape.addInt(d);
        tape.addInt(e);
        return tape.count;
    }

    public int end(int slot, int n) throws IllegalArgumentException, IndexOutOfBoundsException {
        needSlot(slot);
        needSize(n);
        if (tape.count < n) {
            throw new IndexOutOfBoundsException("the tape has fewer bytes");
        }
        slots[slot].become(tape, n);
        tape.clear();
        return n;
    }

    public int copy(int from, int to) throws IllegalArgumentException {
        needSlot(from);
        needSlot(to);
        slots[to].become(slots[from], slots[from].count);
        return slots[to].count;
    }

    public int resize(int slot, int n) throws IllegalArgumentException {
        needSlot(slot);
        needSize(n);
        int before = slots[slot].count;
        slots[slot].stretch(n);
        return before;
    }

    public int alter(int slot, int i, int v) throws IllegalArgumentException, IndexOutOfBoundsException {
        needSlot(slot);
        if (v < 0 || v > 255) {
            throw new IllegalArgumentException("v is no byte");
        }
        needPlace(slot, i);
        int now = slots[slot].at(i) ^ v;
        slots[slot].row[i] = (byte) now;
        return now;
    }

    public int length(int slot) throws IllegalArgumentException {
        needSlot(slot);
        return slots[slot].count;
    }

    public long word(int slot, int i) throws IllegalArgumentException, IndexOutOfBoundsException {
        needSlot(slot);
        needPlace(slot, i);
        long word = 0;
        for (int j = 0; j < 8; j++) {
            word = word << 8 | slots[slot].at(i + j);
        }
        return word;
    }

    public boolean same(int slot, int other) throws IllegalArgumentException {
        needSlot(slot);
        needSlot(other);
        return slots[slot].count == slots[other].count
            && slots[slot].matches(slots[other], slots[other].count);
    }

    public int dsaKeys(int set) throws IllegalArgumentException, IllegalStateException, ArithmeticException {
        needSet(set);
        if (slots[RANDOM].count != SEED_SIZE) {
            throw new IllegalStateException("RANDOM has not 32 bytes");
        }
        keyMaker.make(slots, sets[set]);
        return slots[SECRET].count;
    }

    public int dsaSign(int set, int how) throws IllegalArgumentException, IllegalStateException,
            UnsupportedOperationException, ArithmeticException {
        needSet(set);
        needHow(how);
        needContext(how);
        if (slots[RANDOM].count != SEED_SIZE && slots[RANDOM].count != 0) {
            throw new IllegalStateException("RANDOM has neither 32 bytes nor none");
        }
        if (slots[SECRET].count != sets[set].secretSize) {
            throw new UnsupportedOperationException("SECRET is no key of this set");
        }
        return signer.sign(slots, sets[set], how);
    }

    public boolean dsaVerify(int set, int how) throws IllegalArgumentException, IllegalStateException,
            UnsupportedOperationException, ArithmeticException {
        needSet(set);
        needHow(how);
        needContext(how);
        if (slots[PUBLIC].count != sets[set].publicSize) {
            throw new UnsupportedOperationException("PUBLIC is no key of this set");
        }
        return verifier.verify(slots, sets[set], how);
    }

    private static void needSlot(int slot) {
        if (slot < 0 || slot >= SLOTS) {
            throw new IllegalArgumentException("no such slot");
        }
    }

    private static void needSize(int n) {
        if (n < 0 || n > ROOM) {
            throw new IllegalArgumentException("no size of a slot");
        }
    }

    private static void needSet(int set) {
        if (set < 0 || set >= SETS) {
            throw new IllegalArgumentException("no such set");
        }
    }

    private static void needHow(int how) {
        if (how != 0 && how != -1) {
            throw new IllegalArgumentException("how is neither 0 nor -1");
        }
    }

    private void needPlace(int slot, int i) {
        if (i < 0 || i >= slots[slot].count) {
            throw new IndexOutOfBoundsException("the slot has no such byte");
        }
    }

    private void needContext(int how) {
        if (how == 0 && slots[CONTEXT].count > LONGEST_CONTEXT) {
            throw new IllegalStateException("CONTEXT is too long");
        }
    }

    /** Bytes in a row of fixed room, of which the first ones count. */
    private static final class Bytes {
        final byte[] row;
        int count;

        Bytes(int room) {
            row = new byte[room];
            count = 0;
        }

        /** Zero outside of what counts, so that readers may run over the end. */
        int at(int i) {
            return i >= 0 && i < count ? row[i] & 255 : 0;
        }

        void clear() {
            count = 0;
        }

        void add(int value) {
            if (count < row.length) {
                row[count] = (byte) value;
                count++;
            }
        }

        void addInt(int value) {
            for (int shift = 24; shift >= 0; shift -= 8) {
                add(value >> shift);
            }
        }

        void addAll(Bytes other) {
            for (int i = 0; i < other.count; i++) {
                add(other.at(i));
            }
        }

        void become(Bytes other, int n) {
            int kept = Math.min(Math.min(n, other.count), row.length);
            System.arraycopy(other.row, 0, row, 0, kept);
            count = kept;
        }

        void stretch(int n) {
            int wanted = Math.min(n, row.length);
            // What was cut off earlier still stands in the row and must not come back.
            for (int i = count; i < wanted; i++) {
                row[i] = 0;
            }
            count = wanted;
        }

        boolean matches(Bytes other, int n) {
            for (int i = 0; i < n; i++) {
                if (at(i) != other.at(i)) {
                    return false;
                }
            }
            return true;
        }

        void addBits(int[] f, int width) {
            int pending = 0;
            int held = 0;
            for (int i = 0; i < Ring.N; i++) {
                pending |= f[i] << held;
                held += width;
                for (; held >= 8; held -= 8) {
                    add(pending);
                    pending >>>= 8;
                }
            }
        }

        void readBits(int from, int width, int[] f) {
            int mask = (1 << width) - 1;
            int pending = 0;
            int held = 0;
            int next = from;
            for (int i = 0; i < Ring.N; i++) {
                for (; held < width; held += 8) {
                    pending |= at(next) << held;
                    next++;
                }
                f[i] = pending & mask;
                pending >>>= width;
                held -= width;
            }
        }
    }

    /** SHAKE128 and SHAKE256 of FIPS 202: start, take bytes in, turn, give bytes out. */
    private static final class Sponge {
        private static final int LANES = 25;
        private static final int RATE_128 = 168;
        private static final int RATE_256 = 136;
        private static final int SUFFIX = 31;
        private static final long[] ROUNDS = {
            0x0000000000000001L, 0x0000000000008082L, 0x800000000000808aL, 0x8000000080008000L,
            0x000000000000808bL, 0x0000000080000001L, 0x8000000080008081L, 0x8000000000008009L,
            0x000000000000008aL, 0x0000000000000088L, 0x0000000080008009L, 0x000000008000000aL,
            0x000000008000808bL, 0x800000000000008bL, 0x8000000000008089L, 0x8000000000008003L,
            0x8000000000008002L, 0x8000000000000080L, 0x000000000000800aL, 0x800000008000000aL,
            0x8000000080008081L, 0x8000000000008080L, 0x0000000080000001L, 0x8000000080008008L
        };
        /** By how much lane a + 5 b turns. */
        private static final int[] TURNS = {
            0, 1, 62, 28, 27, 36, 44, 6, 55, 20, 3, 10, 43, 25, 39, 41, 45, 15, 21, 8, 18, 2, 61, 56, 14
        };
        /** Where lane a + 5 b goes: to b + 5 (2 a + 3 b). */
        private static final int[] GOALS = {
            0, 10, 20, 5, 15, 16, 1, 11, 21, 6, 7, 17, 2, 12, 22, 23, 8, 18, 3, 13, 14, 24, 9, 19, 4
        };

        private final long[] lanes = new long[LANES];
        private final long[] moved = new long[LANES];
        private final long[] columns = new long[5];
        private int rate = RATE_256;
        private int place = 0;

        void start128() {
            start(RATE_128);
        }

        void start256() {
            start(RATE_256);
        }

        private void start(int newRate) {
            for (int i = 0; i < LANES; i++) {
                lanes[i] = 0;
            }
            rate = newRate;
            place = 0;
        }

        void take(int value) {
            mixIn(place, value);
            place++;
            if (place >= rate) {
                permute();
                place = 0;
            }
        }

        void takePart(Bytes from, int start, int n) {
            for (int i = 0; i < n; i++) {
                take(from.at(start + i));
            }
        }

        void turn() {
            mixIn(place, SUFFIX);
            mixIn(rate - 1, 128);
            permute();
            place = 0;
        }

        int give() {
            if (place >= rate) {
                permute();
                place = 0;
            }
            int value = (int) (lanes[place >> 3] >>> 8 * (place & 7)) & 255;
            place++;
            return value;
        }

        void giveTo(Bytes to, int n) {
            to.clear();
            for (int i = 0; i < n; i++) {
                to.add(give());
            }
        }

        private void mixIn(int where, int value) {
            lanes[where >> 3] ^= (value & 255L) << 8 * (where & 7);
        }

        private void permute() {
            for (int round = 0; round < ROUNDS.length; round++) {
                for (int a = 0; a < 5; a++) {
                    columns[a] = lanes[a] ^ lanes[a + 5] ^ lanes[a + 10] ^ lanes[a + 15] ^ lanes[a + 20];
                }
                for (int a = 0; a < 5; a++) {
                    long next = columns[(a + 1) % 5];
                    long change = columns[(a + 4) % 5] ^ (next << 1 | next >>> 63);
                    for (int i = a; i < LANES; i += 5) {
                        long lane = lanes[i] ^ change;
                        moved[GOALS[i]] = lane << TURNS[i] | lane >>> 64 - TURNS[i];
                    }
                }
                for (int i = 0; i < LANES; i += 5) {
                    long first = moved[i];
                    long second = moved[i + 1];
                    lanes[i] = first ^ (~second & moved[i + 2]);
                    lanes[i + 1] = second ^ (~moved[i + 2] & moved[i + 3]);
                    lanes[i + 2] = moved[i + 2] ^ (~moved[i + 3] & moved[i + 4]);
                    lanes[i + 3] = moved[i + 3] ^ (~moved[i + 4] & first);
                    lanes[i + 4] = moved[i + 4] ^ (~first & second);
                }
                lanes[0] ^= ROUNDS[round];
            }
        }
    }

    /** The numbers of one parameter set, and the rounding that goes by them. */
    private static final class Parameters {
        private static final int[] K = {4, 6, 8};
        private static final int[] L = {4, 5, 7};
        private static final int[] E = {2, 4, 2};
        private static final int[] T = {39, 49, 60};
        private static final int[] G1 = {1 << 17, 1 << 19, 1 << 19};
        private static final int[] HIGHS = {44, 16, 16};
        private static final int[] W = {80, 55, 75};
        private static final int[] C = {32, 48, 64};
        /** Where in D the hash of P starts, and where the packed polynomials do. */
        static final int HASH_START = 2 * SEED_SIZE;
        static final int SMALL_START = HASH_START + HASH_SIZE;
        /** T1 has so many bits; T0 so many, and is at most so much. */
        static final int TOP_BITS = 10;
        static final int DROPPED_BITS = 13;
        static final int DROPPED_MOST = 4096;

        final int k;
        final int l;
        final int e;
        final int t;
        final int g1;
        final int g2;
        final int w;
        final int c;
        final int highs;
        final int bound;
        final int smallBits;
        final int maskBits;
        final int highBits;
        final int publicSize;
        final int secretSize;
        final int packetSize;

        Parameters(int set) {
            k = K[set];
            l = L[set];
            e = E[set];
            t = T[set];
            g1 = G1[set];
            highs = HIGHS[set];
            g2 = (Ring.Q - 1) / (2 * HIGHS[set]);
            w = W[set];
            c = C[set];
            bound = T[set] * E[set];
            smallBits = E[set] == 4 ? 4 : 3;
            maskBits = G1[set] == 1 << 19 ? 20 : 18;
            highBits = HIGHS[set] == 16 ? 4 : 6;
            publicSize = SEED_SIZE + k * Ring.packedSize(TOP_BITS);
            secretSize = SMALL_START + (k + l) * Ring.packedSize(smallBits)
                + k * Ring.packedSize(DROPPED_BITS);
            packetSize = c + l * Ring.packedSize(maskBits) + w + k;
        }

        int low(int r) {
            int low = plainLow(r);
            return r - low == Ring.Q - 1 ? low - 1 : low;
        }

        int high(int r) {
            int above = r - plainLow(r);
            return above == Ring.Q - 1 ? 0 : above / (2 * g2);
        }

        int hintedHigh(int r) {
            int step = low(r) > 0 ? 1 : highs - 1;
            return (high(r) + step) % highs;
        }

        private int plainLow(int r) {
            int rest = r % (2 * g2);
            return rest > g2 ? rest - 2 * g2 : rest;
        }
    }

    /** Polynomials of 256 coefficients, each kept as 0 .. q - 1. */
    private static final class Ring {
        static final int N = 256;
        static final int Q = 8380417;
        private static final int ROOT = 1753;
        /** 256 times this is 1 modulo q. */
        private static final long SHARE = 8347681;

        /** Power rev 8 (i) of the root, for i 0 .. 255. */
        private final int[] roots;

        Ring() {
            roots = new int[N];
            long power = 1;
            for (int i = 0; i < N; i++) {
                roots[reversed(i)] = (int) power;
                power = power * ROOT % Q;
            }
        }

        private static int reversed(int i) {
            int turned = 0;
            for (int bit = 0; bit < 8; bit++) {
                turned = turned << 1 | i >> bit & 1;
            }
            return turned;
        }

        static int packedSize(int bits) {
            return N / 8 * bits;
        }

        static int plus(int x, int y) {
            int sum = x + y;
            return sum >= Q ? sum - Q : sum;
        }

        static int minus(int x, int y) {
            int rest = x - y;
            return rest < 0 ? rest + Q : rest;
        }

        /** NTT, in place. */
        void forward(int[] f) {
            int root = 0;
            for (int half = N / 2; half > 0; half >>= 1) {
                for (int start = 0; start < N; start += 2 * half) {
                    root++;
                    split(f, start, half, roots[root]);
                }
            }
        }

        private static void split(int[] f, int start, int half, long root) {
            for (int i = start; i < start + half; i++) {
                int other = (int) (root * f[i + half] % Q);
                f[i + half] = minus(f[i], other);
                f[i] = plus(f[i], other);
            }
        }

        /** UNNTT, in place. */
        void back(int[] f) {
            int root = N;
            for (int half = 1; half < N; half <<= 1) {
                for (int start = 0; start < N; start += 2 * half) {
                    root--;
                    join(f, start, half, roots[root]);
                }
            }
            for (int i = 0; i < N; i++) {
                f[i] = (int) (SHARE * f[i] % Q);
            }
        }

        // The roots of the way back are the negatives of these: so the difference is taken the other way round.
        private static void join(int[] f, int start, int half, long root) {
            for (int i = start; i < start + half; i++) {
                int first = f[i];
                f[i] = plus(first, f[i + half]);
                f[i + half] = (int) (root * minus(f[i + half], first) % Q);
            }
        }

        static void copyRow(int[] from, int[] to) {
            System.arraycopy(from, 0, to, 0, N);
        }

        static void addTo(int[] f, int[] more) {
            for (int i = 0; i < N; i++) {
                f[i] = plus(f[i], more[i]);
            }
        }

        static void takeFrom(int[] f, int[] less) {
            for (int i = 0; i < N; i++) {
                f[i] = minus(f[i], less[i]);
            }
        }

        /** Each coefficient becomes top less itself: what PACK does before BITS, and UNPACK after them. */
        static void mirror(int[] f, int top) {
            for (int i = 0; i < N; i++) {
                f[i] = minus(top, f[i]);
            }
        }

        static void multiply(int[] f, int[] g, int[] product) {
            for (int i = 0; i < N; i++) {
                product[i] = (int) ((long) f[i] * g[i] % Q);
            }
        }

        /** The sum of the products of n rows from start on with the n rows of vector: below 2^49, so reduced once. */
        static void multiplyRows(int[][] rows, int start, int[][] vector, int n, int[] sum) {
            for (int i = 0; i < N; i++) {
                long total = 0;
                for (int j = 0; j < n; j++) {
                    total += (long) rows[start + j][i] * vector[j][i];
                }
                sum[i] = (int) (total % Q);
            }
        }

        /** Whether all coefficients, without their sign, are below the limit. */
        static boolean within(int[] f, int limit) {
            for (int i = 0; i < N; i++) {
                if (f[i] >= limit && f[i] <= Q - limit) {
                    return false;
                }
            }
            return true;
        }
    }

    /** Polynomials out of the sponge. */
    private static final class Sampler {
        private static final int MOST_TRIPLES = 298;
        private static final int MOST_SMALL_BYTES = 481;
        private static final int MOST_BALL_BYTES = 121;

        final Sponge sponge = new Sponge();

        /** A of the first 32 bytes of a key, row after row. */
        void matrix(Bytes key, Parameters p, int[][] matrix) {
            for (int i = 0; i < p.k; i++) {
                for (int j = 0; j < p.l; j++) {
                    sponge.start128();
                    sponge.takePart(key, 0, SEED_SIZE);
                    sponge.take(j);
                    sponge.take(i);
                    sponge.turn();
                    sample(matrix[i * p.l + j]);
                }
            }
        }

        private void sample(int[] f) {
            int filled = 0;
            for (int taken = 0; taken < MOST_TRIPLES && filled < Ring.N; taken++) {
                int value = sponge.give();
                value |= sponge.give() << 8;
                value |= (sponge.give() & 127) << 16;
                if (value < Ring.Q) {
                    f[filled] = value;
                    filled++;
                }
            }
            if (filled < Ring.N) {
                throw new ArithmeticException("too few coefficients below q");
            }
        }

        /** SMALL of what the sponge has taken. */
        void small(int e, int[] f) {
            int filled = 0;
            for (int taken = 0; taken < MOST_SMALL_BYTES && filled < Ring.N; taken++) {
                int value = sponge.give();
                filled = addSmall(f, filled, value & 15, e);
                filled = addSmall(f, filled, value >> 4, e);
            }
            if (filled < Ring.N) {
                throw new ArithmeticException("too few small coefficients");
            }
        }

        private static int addSmall(int[] f, int filled, int v, int e) {
            int limit = e == 2 ? 15 : 9;
            if (filled >= Ring.N || v >= limit) {
                return filled;
            }
            f[filled] = Ring.minus(e, e == 2 ? v % 5 : v);
            return filled + 1;
        }

        /** BALL of all the bytes of seed. */
        void ball(Bytes seed, int t, int[] f) {
            sponge.start256();
            sponge.takePart(seed, 0, seed.count);
            sponge.turn();
            long signs = 0;
            for (int i = 0; i < 8; i++) {
                signs |= (long) sponge.give() << 8 * i;
            }
            for (int i = 0; i < Ring.N; i++) {
                f[i] = 0;
            }
            int left = MOST_BALL_BYTES;
            for (int i = Ring.N - t; i < Ring.N; i++) {
                int j = Ring.N;
                for (; j > i && left > 0; left--) {
                    j = sponge.give();
                }
                if (j > i) {
                    throw new ArithmeticException("too few places in the ball");
                }
                f[i] = f[j];
                f[j] = (signs & 1) == 1 ? Ring.Q - 1 : 1;
                signs >>>= 1;
            }
        }

        /** One polynomial of Y, of what the sponge has taken. */
        void mask(Parameters p, Bytes scratch, int[] f) {
            sponge.giveTo(scratch, Ring.packedSize(p.maskBits));
            scratch.readBits(0, p.maskBits, f);
            Ring.mirror(f, p.g1);
        }

        /** The sponge takes 64 bytes of seed and a number in two. */
        void takeNumbered(Bytes seed, int from, int number) {
            sponge.start256();
            sponge.takePart(seed, from, HASH_SIZE);
            sponge.take(number);
            sponge.take(number >> 8);
            sponge.turn();
        }
    }

    /** All rows that the calls work in, made once for an object, and the tools that work on them. */
    private static final class Bench {
        static final int MOST_ROWS = 8;
        static final int MOST_COLUMNS = 7;
        private static final int PACKED_ROOM = 1024;

        final Sampler sampler = new Sampler();
        final Sponge sponge = sampler.sponge;
        final Ring ring = new Ring();
        /** A, row after row. */
        final int[][] matrix = new int[MOST_ROWS * MOST_COLUMNS][Ring.N];
        /** S and E. */
        final int[][] secrets = new int[MOST_COLUMNS][Ring.N];
        final int[][] errors = new int[MOST_ROWS][Ring.N];
        /** Z; also what A is multiplied with. */
        final int[][] answers = new int[MOST_COLUMNS][Ring.N];
        /** T, W or X: what comes out of A. */
        final int[][] images = new int[MOST_ROWS][Ring.N];
        final int[] ball = new int[Ring.N];
        final int[] product = new int[Ring.N];
        /** m. */
        final Bytes digest = new Bytes(HASH_SIZE);
        /** C. */
        final Bytes challenge = new Bytes(HASH_SIZE);
        final Bytes packed = new Bytes(PACKED_ROOM);

        /** images = A times the answers (as NTT), not yet turned back. */
        void multiplyMatrix(Parameters p) {
            for (int i = 0; i < p.k; i++) {
                Ring.multiplyRows(matrix, i * p.l, answers, p.l, images[i]);
            }
        }

        /** product = the ball (as NTT) times f (as NTT), turned back. */
        void multiplyBall(int[] f) {
            Ring.multiply(ball, f, product);
            ring.back(product);
        }

        /** digest = m, of the hash of a public key that stands in a row, and of what is signed. */
        void digestSigned(Bytes keyHash, int from, Bytes[] slots, int how) {
            sponge.start256();
            sponge.takePart(keyHash, from, HASH_SIZE);
            if (how == 0) {
                sponge.take(0);
                sponge.take(slots[CONTEXT].count);
                sponge.takePart(slots[CONTEXT], 0, slots[CONTEXT].count);
            }
            sponge.takePart(slots[MESSAGE], 0, slots[MESSAGE].count);
            sponge.turn();
            sponge.giveTo(digest, HASH_SIZE);
        }

        /** The hash of the digest and of the packed HIGHS. */
        void hashHighs(Parameters p, Bytes to) {
            sponge.start256();
            sponge.takePart(digest, 0, HASH_SIZE);
            sponge.takePart(packed, 0, packed.count);
            sponge.turn();
            sponge.giveTo(to, p.c);
        }

        /** The ball of the challenge, as NTT. */
        void castBall(Parameters p) {
            sampler.ball(challenge, p.t, ball);
            ring.forward(ball);
        }
    }

    /** KEYS. */
    private static final class KeyMaker {
        private static final int SEEDS_SIZE = SEED_SIZE + HASH_SIZE + SEED_SIZE;

        private final Bench bench;
        /** r, s and K. */
        private final Bytes seeds = new Bytes(SEEDS_SIZE);

        KeyMaker(Bench bench) {
            this.bench = bench;
        }

        void make(Bytes[] slots, Parameters p) {
            drawSeeds(slots[RANDOM], p);
            drawSecrets(p);
            computeImages(p);
            // All that can throw is over: only now the slots may change.
            writePublic(slots[PUBLIC], p);
            writeSecret(slots[SECRET], slots[PUBLIC], p);
        }

        private void drawSeeds(Bytes random, Parameters p) {
            bench.sponge.start256();
            bench.sponge.takePart(random, 0, SEED_SIZE);
            bench.sponge.take(p.k);
            bench.sponge.take(p.l);
            bench.sponge.turn();
            bench.sponge.giveTo(seeds, SEEDS_SIZE);
        }

        private void drawSecrets(Parameters p) {
            bench.sampler.matrix(seeds, p, bench.matrix);
            for (int i = 0; i < p.l; i++) {
                bench.sampler.takeNumbered(seeds, SEED_SIZE, i);
                bench.sampler.small(p.e, bench.secrets[i]);
            }
            for (int i = 0; i < p.k; i++) {
                bench.sampler.takeNumbered(seeds, SEED_SIZE, p.l + i);
                bench.sampler.small(p.e, bench.errors[i]);
            }
        }

        private void computeImages(Parameters p) {
            for (int i = 0; i < p.l; i++) {
                Ring.copyRow(bench.secrets[i], bench.answers[i]);
                bench.ring.forward(bench.answers[i]);
            }
            bench.multiplyMatrix(p);
            for (int i = 0; i < p.k; i++) {
                bench.ring.back(bench.images[i]);
                Ring.addTo(bench.images[i], bench.errors[i]);
            }
        }

        private void writePublic(Bytes to, Parameters p) {
            to.clear();
            addSeed(to, 0);
            for (int i = 0; i < p.k; i++) {
                for (int j = 0; j < Ring.N; j++) {
                    bench.product[j] = top(bench.images[i][j]);
                }
                to.addBits(bench.product, Parameters.TOP_BITS);
            }
        }

        private void writeSecret(Bytes to, Bytes publicKey, Parameters p) {
            to.clear();
            addSeed(to, 0);
            addSeed(to, SEED_SIZE + HASH_SIZE);
            bench.sponge.start256();
            bench.sponge.takePart(publicKey, 0, publicKey.count);
            bench.sponge.turn();
            bench.sponge.giveTo(bench.digest, HASH_SIZE);
            to.addAll(bench.digest);
            for (int i = 0; i < p.l; i++) {
                addMirrored(to, bench.secrets[i], p.e, p.smallBits);
            }
            for (int i = 0; i < p.k; i++) {
                addMirrored(to, bench.errors[i], p.e, p.smallBits);
            }
            for (int i = 0; i < p.k; i++) {
                for (int j = 0; j < Ring.N; j++) {
                    int value = bench.images[i][j];
                    int rest = value - (top(value) << Parameters.DROPPED_BITS);
                    bench.product[j] = Parameters.DROPPED_MOST - rest;
                }
                to.addBits(bench.product, Parameters.DROPPED_BITS);
            }
        }

        private void addSeed(Bytes to, int from) {
            for (int i = 0; i < SEED_SIZE; i++) {
                to.add(seeds.at(from + i));
            }
        }

        private static void addMirrored(Bytes to, int[] f, int top, int bits) {
            Ring.mirror(f, top);
            to.addBits(f, bits);
        }

        /** T1 of one coefficient: what is left then, T0, is -4095 .. 4096. */
        private static int top(int value) {
            return value + Parameters.DROPPED_MOST - 1 >> Parameters.DROPPED_BITS;
        }
    }

    /** SIGN. */
    private static final class Signer {
        private static final int MOST_TRIES = 814;
        private static final int MOST_HINTS = 80;

        private final Bench bench;
        /** T0 of the key, as NTT. */
        private final int[][] drops = new int[Bench.MOST_ROWS][Ring.N];
        /** Y. */
        private final int[][] masks = new int[Bench.MOST_COLUMNS][Ring.N];
        private final Bytes maskSeed = new Bytes(HASH_SIZE);
        /** The places of the hints, and for each polynomial how many there are up to its end. */
        private final Bytes hints = new Bytes(MOST_HINTS);
        private final Bytes ends = new Bytes(Bench.MOST_ROWS);

        Signer(Bench bench) {
            this.bench = bench;
        }

        /** Answers how often it was tried. */
        int sign(Bytes[] slots, Parameters p, int how) {
            readSecret(slots[SECRET], p);
            bench.digestSigned(slots[SECRET], Parameters.HASH_START, slots, how);
            drawMaskSeed(slots[SECRET], slots[RANDOM]);
            for (int tried = 0; tried < MOST_TRIES; tried++) {
                drawMasks(p, tried * p.l);
                commit(p);
                bench.castBall(p);
                if (answersHide(p) && lowsHide(p) && hintsSuffice(p)) {
                    writePacket(slots[PACKET], p);
                    return tried + 1;
                }
            }
            throw new ArithmeticException("no try held");
        }

        private void readSecret(Bytes secret, Parameters p) {
            bench.sampler.matrix(secret, p, bench.matrix);
            int place = Parameters.SMALL_START;
            for (int i = 0; i < p.l; i++) {
                readMirrored(secret, place, p.smallBits, p.e, bench.secrets[i]);
                place += Ring.packedSize(p.smallBits);
            }
            for (int i = 0; i < p.k; i++) {
                readMirrored(secret, place, p.smallBits, p.e, bench.errors[i]);
                place += Ring.packedSize(p.smallBits);
            }
            for (int i = 0; i < p.k; i++) {
                readMirrored(secret, place, Parameters.DROPPED_BITS, Parameters.DROPPED_MOST, drops[i]);
                place += Ring.packedSize(Parameters.DROPPED_BITS);
            }
        }

        private void readMirrored(Bytes from, int place, int bits, int top, int[] f) {
            from.readBits(place, bits, f);
            Ring.mirror(f, top);
            bench.ring.forward(f);
        }

        private void drawMaskSeed(Bytes secret, Bytes random) {
            bench.sponge.start256();
            bench.sponge.takePart(secret, SEED_SIZE, SEED_SIZE);
            // An empty RANDOM reads as the zeros that stand for it.
            bench.sponge.takePart(random, 0, SEED_SIZE);
            bench.sponge.takePart(bench.digest, 0, HASH_SIZE);
            bench.sponge.turn();
            bench.sponge.giveTo(maskSeed, HASH_SIZE);
        }

        private void drawMasks(Parameters p, int number) {
            for (int i = 0; i < p.l; i++) {
                bench.sampler.takeNumbered(maskSeed, 0, number + i);
                bench.sampler.mask(p, bench.packed, masks[i]);
                Ring.copyRow(masks[i], bench.answers[i]);
                bench.ring.forward(bench.answers[i]);
            }
        }

        private void commit(Parameters p) {
            bench.multiplyMatrix(p);
            bench.packed.clear();
            for (int i = 0; i < p.k; i++) {
                bench.ring.back(bench.images[i]);
                for (int j = 0; j < Ring.N; j++) {
                    bench.product[j] = p.high(bench.images[i][j]);
                }
                bench.packed.addBits(bench.product, p.highBits);
            }
            bench.hashHighs(p, bench.challenge);
        }

        private boolean answersHide(Parameters p) {
            for (int i = 0; i < p.l; i++) {
                bench.multiplyBall(bench.secrets[i]);
                Ring.copyRow(masks[i], bench.answers[i]);
                Ring.addTo(bench.answers[i], bench.product);
                if (!Ring.within(bench.answers[i], p.g1 - p.bound)) {
                    return false;
                }
            }
            return true;
        }

        private boolean lowsHide(Parameters p) {
            for (int i = 0; i < p.k; i++) {
                bench.multiplyBall(bench.errors[i]);
                Ring.takeFrom(bench.images[i], bench.product);
                if (!lowsWithin(bench.images[i], p)) {
                    return false;
                }
            }
            return true;
        }

        private static boolean lowsWithin(int[] f, Parameters p) {
            int limit = p.g2 - p.bound;
            for (int i = 0; i < Ring.N; i++) {
                int low = p.low(f[i]);
                if (low >= limit || low <= -limit) {
                    return false;
                }
            }
            return true;
        }

        private boolean hintsSuffice(Parameters p) {
            hints.clear();
            ends.clear();
            for (int i = 0; i < p.k; i++) {
                bench.multiplyBall(drops[i]);
                if (!Ring.within(bench.product, p.g2) || !addHints(bench.images[i], p)) {
                    return false;
                }
                ends.add(hints.count);
            }
            return true;
        }

        private boolean addHints(int[] f, Parameters p) {
            for (int i = 0; i < Ring.N; i++) {
                if (p.high(Ring.plus(f[i], bench.product[i])) != p.high(f[i])) {
                    if (hints.count >= p.w) {
                        return false;
                    }
                    hints.add(i);
                }
            }
            return true;
        }

        private void writePacket(Bytes packet, Parameters p) {
            packet.clear();
            packet.addAll(bench.challenge);
            for (int i = 0; i < p.l; i++) {
                Ring.mirror(bench.answers[i], p.g1);
                packet.addBits(bench.answers[i], p.maskBits);
            }
            hints.stretch(p.w);
            packet.addAll(hints);
            packet.addAll(ends);
        }
    }

    /** VERIFY. */
    private static final class Verifier {
        private final Bench bench;
        private final Bytes keyHash = new Bytes(HASH_SIZE);
        private final Bytes found = new Bytes(HASH_SIZE);

        Verifier(Bench bench) {
            this.bench = bench;
        }

        boolean verify(Bytes[] slots, Parameters p, int how) {
            Bytes packet = slots[PACKET];
            if (packet.count != p.packetSize || !hintsStand(packet, p) || !answersHide(packet, p)) {
                return false;
            }
            digestMessage(slots, how);
            bench.challenge.become(packet, p.c);
            bench.castBall(p);
            computeImages(slots[PUBLIC], p);
            packHighs(packet, p);
            bench.hashHighs(p, found);
            slots[SHARED].become(found, p.c);
            return found.matches(packet, p.c);
        }

        private static int hintsStart(Parameters p) {
            return p.packetSize - p.w - p.k;
        }

        /** Up to which hint polynomial i has its own; -1 is the one before the first. */
        private static int hintsEnd(Bytes packet, Parameters p, int i) {
            return i < 0 ? 0 : packet.at(hintsStart(p) + p.w + i);
        }

        private static boolean hintsStand(Bytes packet, Parameters p) {
            for (int i = 0; i < p.k; i++) {
                int from = hintsEnd(packet, p, i - 1);
                int to = hintsEnd(packet, p, i);
                if (to < from || to > p.w || !placesRise(packet, hintsStart(p) + from, hintsStart(p) + to)) {
                    return false;
                }
            }
            for (int i = hintsEnd(packet, p, p.k - 1); i < p.w; i++) {
                if (packet.at(hintsStart(p) + i) != 0) {
                    return false;
                }
            }
            return true;
        }

        private static boolean placesRise(Bytes packet, int from, int to) {
            for (int i = from + 1; i < to; i++) {
                if (packet.at(i) <= packet.at(i - 1)) {
                    return false;
                }
            }
            return true;
        }

        private boolean answersHide(Bytes packet, Parameters p) {
            for (int i = 0; i < p.l; i++) {
                packet.readBits(p.c + i * Ring.packedSize(p.maskBits), p.maskBits, bench.answers[i]);
                Ring.mirror(bench.answers[i], p.g1);
                if (!Ring.within(bench.answers[i], p.g1 - p.bound)) {
                    return false;
                }
            }
            return true;
        }

        private void digestMessage(Bytes[] slots, int how) {
            bench.sponge.start256();
            bench.sponge.takePart(slots[PUBLIC], 0, slots[PUBLIC].count);
            bench.sponge.turn();
            bench.sponge.giveTo(keyHash, HASH_SIZE);
            bench.digestSigned(keyHash, 0, slots, how);
        }

        private void computeImages(Bytes publicKey, Parameters p) {
            bench.sampler.matrix(publicKey, p, bench.matrix);
            for (int i = 0; i < p.l; i++) {
                bench.ring.forward(bench.answers[i]);
            }
            bench.multiplyMatrix(p);
            for (int i = 0; i < p.k; i++) {
                readTop(publicKey, i);
                Ring.multiply(bench.ball, bench.product, bench.product);
                Ring.takeFrom(bench.images[i], bench.product);
                bench.ring.back(bench.images[i]);
            }
        }

        /** product = NTT(8192 T1 i). */
        private void readTop(Bytes publicKey, int i) {
            int place = SEED_SIZE + i * Ring.packedSize(Parameters.TOP_BITS);
            publicKey.readBits(place, Parameters.TOP_BITS, bench.product);
            for (int j = 0; j < Ring.N; j++) {
                bench.product[j] <<= Parameters.DROPPED_BITS;
            }
            bench.ring.forward(bench.product);
        }

        private void packHighs(Bytes packet, Parameters p) {
            bench.packed.clear();
            for (int i = 0; i < p.k; i++) {
                int next = hintsEnd(packet, p, i - 1);
                int end = hintsEnd(packet, p, i);
                for (int j = 0; j < Ring.N; j++) {
                    int value = bench.images[i][j];
                    boolean hinted = next < end && packet.at(hintsStart(p) + next) == j;
                    bench.product[j] = hinted ? p.hintedHigh(value) : p.high(value);
                    next += hinted ? 1 : 0;
                }
                bench.packed.addBits(bench.product, p.highBits);
            }
        }
    }
}
