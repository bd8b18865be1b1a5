import java.util.Arrays;

/**
 * Signs messages with short vectors over a ring of polynomials, trying again until the signature
 * tells nothing of the key, and verifies signatures.
 *
 * <p>Every row that a call needs is made with the object and used again, so that calls make nothing.
 */
public final class ShortVectorSigner {
    public static final int NONE = -1;
    public static final int EXHAUSTED = -2;

    private static final int Q = 8380417;
    /** Coefficients of a polynomial. */
    private static final int N = 16;
    /** Coefficients of a vector, whose two polynomials lie one behind the other in one row. */
    private static final int VECTOR = 2 * N;
    /** Coefficients of a matrix, whose polynomial A[i][j] begins at N * (2 * i + j). */
    private static final int MATRIX = 4 * N;

    private static final int STREAM_BYTES = 136;
    private static final int MESSAGE_BYTES = 24;
    private static final int MOST_TRIES = 30;

    /** RHO, SIGMA, KAPPA, TRACE and seals all have this many bytes. */
    private static final int SHORT_BYTES = 8;
    /** mu and nu have this many bytes. */
    private static final int DIGEST_BYTES = 16;
    private static final int HIGH_BITS = 12;

    private static final int PUBLIC_BYTES = 68;
    private static final int T1_FROM = 8;
    private static final int T1_BITS = 15;
    private static final int UPPER_STEP = 256;

    private static final int SIGNATURE_BYTES = 62;
    private static final int Z_FROM = 8;
    private static final int WIDE_BITS = 10;
    private static final int WIDE_MIDDLE = 512;
    private static final int HINTS_FROM = 48;
    private static final int MOST_HINTS = 12;
    private static final int FIRST_COUNT_AT = 60;
    private static final int BOTH_COUNT_AT = 61;

    private static final int Z_LIMIT = 504;
    private static final int LOW_LIMIT = 1015;
    private static final int V_LIMIT = 1023;

    private final Hasher hasher = new Hasher();
    private final Message message = new Message();
    private final SecretKey secretKey = new SecretKey();
    private final Signing signing = new Signing();
    private final Verifying verifying = new Verifying();
    private final int[] publicKey = new int[PUBLIC_BYTES];
    private final int[] signature = new int[SIGNATURE_BYTES];
    private final int[] ballShown = new int[N];
    private boolean hasKey;

    public ShortVectorSigner() {
        hasKey = false;
    }

    public void key(long seed) {
        secretKey.derive(hasher, seed);
        System.arraycopy(secretKey.publicKey, 0, publicKey, 0, PUBLIC_BYTES);
        hasKey = true;
    }

    public boolean say(int b) {
        return isByte(b) && message.add(b);
    }

    public void hush() {
        message.clear();
    }

    public int sign(long with, int tries) {
        if (!hasKey || tries < 1 || tries > MOST_TRIES) {
            return NONE;
        }
        signing.open(hasher, secretKey, message, with);
        for (int k = 1; k <= tries; k++) {
            if (signing.trySucceeds(hasher, secretKey, k)) {
                signing.writeTo(signature);
                return k;
            }
        }
        return EXHAUSTED;
    }

    public boolean verify() {
        return verifying.holds(hasher, publicKey, message, signature);
    }

    public int publicByte(int i) {
        return isIndex(i, PUBLIC_BYTES) ? publicKey[i] : NONE;
    }

    public int signatureByte(int i) {
        return isIndex(i, SIGNATURE_BYTES) ? signature[i] : NONE;
    }

    public boolean putPublic(int i, int b) {
        return putByte(publicKey, i, b);
    }

    public boolean putSignature(int i, int b) {
        return putByte(signature, i, b);
    }

    public int secret(int which, int i) {
        if (!hasKey || !isIndex(which, 6) || !isIndex(i, N)) {
            return 0;
        }
        return Ring.centered(secretKey.vectorOf(which / 2)[N * (which % 2) + i]);
    }

    public int hash(int i) {
        if (!isIndex(i, STREAM_BYTES)) {
            return NONE;
        }
        hasher.begin();
        message.feed(hasher);
        return hasher.finish()[i];
    }

    public int ball(int i) {
        if (!isIndex(i, N)) {
            return 0;
        }
        Samples.fillBall(hasher, signature, ballShown);
        return ballShown[i];
    }

    public int high(int r) {
        return Rounding.highOf(Ring.reduce(r));
    }

    public int low(int r) {
        return Rounding.lowOf(Ring.reduce(r));
    }

    public int hint(int z, int r) {
        return Rounding.hintOf(z, Ring.reduce(r));
    }

    public int corrected(int h, int r) {
        return Rounding.correctedBy(h & 1, Ring.reduce(r));
    }

    private static boolean isIndex(int i, int count) {
        return i >= 0 && i < count;
    }

    private static boolean isByte(int b) {
        return b >= 0 && b <= 255;
    }

    private static boolean putByte(int[] bytes, int i, int b) {
        if (!isIndex(i, bytes.length) || !isByte(b)) {
            return false;
        }
        bytes[i] = b;
        return true;
    }

    /** Of the count places of a row from a place on, those behind the first used ones become 0. */
    private static void clearRest(int[] row, int from, int used, int count) {
        for (int i = used; i < count; i++) {
            row[from + i] = 0;
        }
    }

    /** H: begin, take the bytes of x, finish. All that the document hashes fits into one block. */
    private static final class Hasher {
        private static final int LANES = 25;
        private static final int ROUNDS = 24;

        /** What lane 0 is XORed with in each round: the bits K(7 * r + j), worked out beforehand. */
        private static final long[] ROUND_BITS = {
            0x0000000000000001L, 0x0000000000008082L, 0x800000000000808AL, 0x8000000080008000L,
            0x000000000000808BL, 0x0000000080000001L, 0x8000000080008081L, 0x8000000000008009L,
            0x000000000000008AL, 0x0000000000000088L, 0x0000000080008009L, 0x000000008000000AL,
            0x000000008000808BL, 0x800000000000008BL, 0x8000000000008089L, 0x8000000000008003L,
            0x8000000000008002L, 0x8000000000000080L, 0x000000000000800AL, 0x800000008000000AL,
            0x8000000080008081L, 0x8000000000008080L, 0x0000000080000001L, 0x8000000080008008L
        };

        /** R(a, b) at a + 5 * b, worked out beforehand. */
        private static final int[] ROTATIONS = {
            0, 1, 62, 28, 27,
            36, 44, 6, 55, 20,
            3, 10, 43, 25, 39,
            41, 45, 15, 21, 8,
            18, 2, 61, 56, 14
        };

        private final long[] lanes = new long[LANES];
        private final long[] moved = new long[LANES];
        private final long[] columns = new long[5];
        private final int[] stream = new int[STREAM_BYTES];
        private int taken;

        void begin() {
            Arrays.fill(lanes, 0L);
            taken = 0;
        }

        void take(int b) {
            // The last byte of the block is kept free for the mark of the end.
            if (taken < STREAM_BYTES - 1) {
                mixByte(taken, b);
                taken++;
            }
        }

        void takeAll(int[] bytes) {
            takeFirst(bytes, bytes.length);
        }

        void takeFirst(int[] bytes, int count) {
            for (int i = 0; i < count; i++) {
                take(bytes[i]);
            }
        }

        void takeLong(long x) {
            for (int i = 0; i < 8; i++) {
                take((int) (x >>> (8 * i)) & 255);
            }
        }

        /** The stream's bytes, in a row that stands until the next finish. */
        int[] finish() {
            mixByte(taken, 31);
            mixByte(STREAM_BYTES - 1, 128);
            for (int r = 0; r < ROUNDS; r++) {
                mixColumns();
                moveLanes();
                mixRows();
                lanes[0] ^= ROUND_BITS[r];
            }
            for (int i = 0; i < STREAM_BYTES; i++) {
                stream[i] = (int) (lanes[i / 8] >>> (8 * (i % 8))) & 255;
            }
            return stream;
        }

        private void mixByte(int i, int b) {
            lanes[i / 8] ^= (long) b << (8 * (i % 8));
        }

        private void mixColumns() {
            for (int a = 0; a < 5; a++) {
                columns[a] = lanes[a] ^ lanes[a + 5] ^ lanes[a + 10] ^ lanes[a + 15] ^ lanes[a + 20];
            }
            for (int i = 0; i < LANES; i++) {
                lanes[i] ^= columns[(i + 4) % 5] ^ Long.rotateLeft(columns[(i + 1) % 5], 1);
            }
        }

        private void moveLanes() {
            for (int b = 0; b < 5; b++) {
                for (int a = 0; a < 5; a++) {
                    int from = a + 5 * b;
                    moved[b + 5 * ((2 * a + 3 * b) % 5)] = Long.rotateLeft(lanes[from], ROTATIONS[from]);
                }
            }
        }

        private void mixRows() {
            for (int row = 0; row < LANES; row += 5) {
                for (int a = 0; a < 5; a++) {
                    lanes[row + a] = moved[row + a] ^ (~moved[row + (a + 1) % 5] & moved[row + (a + 2) % 5]);
                }
            }
        }
    }

    /** The bytes that have been said. */
    private static final class Message {
        private final int[] bytes = new int[MESSAGE_BYTES];
        private int length;

        boolean add(int b) {
            if (length >= MESSAGE_BYTES) {
                return false;
            }
            bytes[length] = b;
            length++;
            return true;
        }

        void clear() {
            length = 0;
        }

        void feed(Hasher hasher) {
            hasher.takeFirst(bytes, length);
        }
    }

    /**
     * Sums and products mod q. A coefficient may lie in a row as any int from -q to q that it is mod
     * q: the sum of 32 products of two such numbers is far from the end of a long.
     */
    private static final class Ring {
        static int reduce(long x) {
            long rest = x % Q;
            return (int) (rest < 0 ? rest + Q : rest);
        }

        static int centered(long x) {
            int r = reduce(x);
            return r > (Q - 1) / 2 ? r - Q : r;
        }

        static int size(int[] vector) {
            int greatest = 0;
            for (int i = 0; i < VECTOR; i++) {
                greatest = Math.max(greatest, Math.abs(centered(vector[i])));
            }
            return greatest;
        }

        static void applyMatrix(int[] matrix, int[] vector, int[] into) {
            for (int i = 0; i < N; i++) {
                into[i] = reduce(productAt(i, matrix, 0, vector, 0)
                        + productAt(i, matrix, N, vector, N));
                into[N + i] = reduce(productAt(i, matrix, 2 * N, vector, 0)
                        + productAt(i, matrix, 3 * N, vector, N));
            }
        }

        static void applyPolynomial(int[] polynomial, int[] vector, int[] into) {
            for (int i = 0; i < N; i++) {
                into[i] = reduce(productAt(i, polynomial, 0, vector, 0));
                into[N + i] = reduce(productAt(i, polynomial, 0, vector, N));
            }
        }

        /** Coefficient i, not reduced, of the product of what begins in f at fromF and in g at fromG. */
        private static long productAt(int i, int[] f, int fromF, int[] g, int fromG) {
            long sum = 0;
            for (int j = 0; j <= i; j++) {
                sum += (long) f[fromF + j] * g[fromG + i - j];
            }
            for (int j = i + 1; j < N; j++) {
                sum -= (long) f[fromF + j] * g[fromG + N + i - j];
            }
            return sum;
        }
    }

    /** HIGH, LOW, hints and lower parts of numbers r from 0 to q - 1. */
    private static final class Rounding {
        private static final int STEP = 2046;
        private static final int HIGHS = 4096;

        static int highOf(int r) {
            int c = restOf(r, STEP);
            return r - c == Q - 1 ? 0 : (r - c) / STEP;
        }

        static int lowOf(int r) {
            int c = restOf(r, STEP);
            return r - c == Q - 1 ? c - 1 : c;
        }

        static int lowerPart(int r) {
            return restOf(r, UPPER_STEP);
        }

        static int hintOf(long z, int r) {
            return highOf(r) == highOf(Ring.reduce(r + z)) ? 0 : 1;
        }

        static int correctedBy(int bit, int r) {
            if (bit == 0) {
                return highOf(r);
            }
            int step = lowOf(r) > 0 ? 1 : HIGHS - 1;
            return (highOf(r) + step) % HIGHS;
        }

        /** r less a multiple of the even step, from 1 - step / 2 to step / 2. */
        private static int restOf(int r, int step) {
            int c = r % step;
            return c > step / 2 ? c - step : c;
        }
    }

    /** Numbers of some bits each, packed into the bytes of a row from a byte on. */
    private static final class Packing {
        static void write(int[] bytes, int from, int place, int bits, int number) {
            for (int k = 0; k < bits; k++) {
                int bit = place * bits + k;
                int mask = 1 << (bit % 8);
                int at = from + bit / 8;
                bytes[at] = (number >> k & 1) == 1 ? bytes[at] | mask : bytes[at] & ~mask;
            }
        }

        static int read(int[] bytes, int from, int place, int bits) {
            int number = 0;
            for (int k = 0; k < bits; k++) {
                int bit = place * bits + k;
                number |= (bytes[from + bit / 8] >> (bit % 8) & 1) << k;
            }
            return number;
        }
    }

    /** Polynomials that come of bytes. */
    private static final class Samples {
        private static final int UNIFORM_BYTES = 135;
        private static final int SMALL_NIBBLES = 128;
        private static final int BALL_BYTES = 33;
        private static final int BALL_FIRST = 12;

        /** The matrix of the RHO in the first eight bytes of a public key. */
        static void fillMatrix(Hasher hasher, int[] publicKey, int[] matrix) {
            for (int k = 0; k < 4; k++) {
                fillUniform(streamOf(hasher, publicKey, SHORT_BYTES, k), matrix, N * k);
            }
        }

        /** The vector of two SMALL, of SIGMA with the bytes last and last + 1. */
        static void fillSmallVector(Hasher hasher, int[] sigma, int last, int[] vector) {
            fillSmall(streamOf(hasher, sigma, SHORT_BYTES, last), vector, 0);
            fillSmall(streamOf(hasher, sigma, SHORT_BYTES, last + 1), vector, N);
        }

        /** The vector of two WIDE, of nu with the bytes last and last + 1. */
        static void fillWideVector(Hasher hasher, int[] nu, int last, int[] vector) {
            fillWide(streamOf(hasher, nu, DIGEST_BYTES, last), vector, 0);
            fillWide(streamOf(hasher, nu, DIGEST_BYTES, last + 1), vector, N);
        }

        /** BALL of the seal in the first eight bytes of a row. */
        static void fillBall(Hasher hasher, int[] seal, int[] polynomial) {
            hasher.begin();
            hasher.takeFirst(seal, SHORT_BYTES);
            fillSigns(hasher.finish(), polynomial);
        }

        private static void fillSigns(int[] stream, int[] polynomial) {
            Arrays.fill(polynomial, 0);
            int next = 1;
            for (int i = BALL_FIRST; i < N; i++) {
                while (next < BALL_BYTES && (stream[next] & 15) > i) {
                    next++;
                }
                int j = next < BALL_BYTES ? stream[next] & 15 : 0;
                next++;
                polynomial[i] = polynomial[j];
                polynomial[j] = (stream[0] >> (i - BALL_FIRST) & 1) == 1 ? -1 : 1;
            }
        }

        private static int[] streamOf(Hasher hasher, int[] bytes, int count, int last) {
            hasher.begin();
            hasher.takeFirst(bytes, count);
            hasher.take(last);
            return hasher.finish();
        }

        private static void fillUniform(int[] stream, int[] row, int from) {
            int found = 0;
            for (int i = 0; i < UNIFORM_BYTES && found < N; i += 3) {
                int number = stream[i] | stream[i + 1] << 8 | (stream[i + 2] & 127) << 16;
                if (number < Q) {
                    row[from + found] = number;
                    found++;
                }
            }
            clearRest(row, from, found, N);
        }

        private static void fillSmall(int[] stream, int[] row, int from) {
            int found = 0;
            for (int i = 0; i < SMALL_NIBBLES && found < N; i++) {
                int number = stream[i / 2] >> (4 * (i % 2)) & 15;
                if (number != 15) {
                    row[from + found] = 2 - number % 5;
                    found++;
                }
            }
            clearRest(row, from, found, N);
        }

        private static void fillWide(int[] stream, int[] row, int from) {
            for (int i = 0; i < N; i++) {
                row[from + i] = WIDE_MIDDLE - Packing.read(stream, 0, i, WIDE_BITS);
            }
        }
    }

    /** All that comes of a seed. Its public key is its own, as the one that lies there may be changed. */
    private static final class SecretKey {
        private final int[] publicKey = new int[PUBLIC_BYTES];
        private final int[] sigma = new int[SHORT_BYTES];
        private final int[] kappa = new int[SHORT_BYTES];
        private final int[] trace = new int[SHORT_BYTES];
        private final int[] matrix = new int[MATRIX];
        private final int[] s = new int[VECTOR];
        private final int[] e = new int[VECTOR];
        private final int[] t0 = new int[VECTOR];
        private final int[] product = new int[VECTOR];

        void derive(Hasher hasher, long seed) {
            hasher.begin();
            hasher.takeLong(seed);
            int[] stream = hasher.finish();
            System.arraycopy(stream, 0, publicKey, 0, SHORT_BYTES);
            System.arraycopy(stream, SHORT_BYTES, sigma, 0, SHORT_BYTES);
            System.arraycopy(stream, 2 * SHORT_BYTES, kappa, 0, SHORT_BYTES);
            Samples.fillMatrix(hasher, publicKey, matrix);
            Samples.fillSmallVector(hasher, sigma, 0, s);
            Samples.fillSmallVector(hasher, sigma, 2, e);
            splitT();
            fillTrace(hasher, publicKey, trace);
        }

        /** s, e and t0 for 0, 1 and 2. */
        int[] vectorOf(int which) {
            if (which == 0) {
                return s;
            }
            return which == 1 ? e : t0;
        }

        private void splitT() {
            Ring.applyMatrix(matrix, s, product);
            for (int i = 0; i < VECTOR; i++) {
                int t = Ring.reduce(product[i] + e[i]);
                t0[i] = Rounding.lowerPart(t);
                Packing.write(publicKey, T1_FROM, i, T1_BITS, (t - t0[i]) / UPPER_STEP);
            }
        }

        static void fillTrace(Hasher hasher, int[] publicKey, int[] trace) {
            hasher.begin();
            hasher.takeAll(publicKey);
            System.arraycopy(hasher.finish(), 0, trace, 0, SHORT_BYTES);
        }
    }

    /** mu, and the seal over it and 32 numbers of 12 bits: what signing and verifying must agree on. */
    private static final class Transcript {
        private final int[] mu = new int[DIGEST_BYTES];
        private final int[] highs = new int[VECTOR * HIGH_BITS / 8];
        private final int[] seal = new int[SHORT_BYTES];

        void open(Hasher hasher, int[] trace, Message message) {
            hasher.begin();
            hasher.takeAll(trace);
            message.feed(hasher);
            System.arraycopy(hasher.finish(), 0, mu, 0, DIGEST_BYTES);
        }

        void setHigh(int place, int number) {
            Packing.write(highs, 0, place, HIGH_BITS, number);
        }

        void close(Hasher hasher) {
            hasher.begin();
            hasher.takeAll(mu);
            hasher.takeAll(highs);
            System.arraycopy(hasher.finish(), 0, seal, 0, SHORT_BYTES);
        }

        boolean hasSealOf(int[] signature) {
            for (int i = 0; i < SHORT_BYTES; i++) {
                if (seal[i] != signature[i]) {
                    return false;
                }
            }
            return true;
        }
    }

    /** The tries of one call of sign. */
    private static final class Signing {
        private final Transcript transcript = new Transcript();
        private final int[] nu = new int[DIGEST_BYTES];
        private final int[] y = new int[VECTOR];
        private final int[] w = new int[VECTOR];
        private final int[] c = new int[N];
        private final int[] z = new int[VECTOR];
        private final int[] u = new int[VECTOR];
        private final int[] v = new int[VECTOR];
        private final int[] hints = new int[VECTOR];

        void open(Hasher hasher, SecretKey secretKey, Message message, long with) {
            transcript.open(hasher, secretKey.trace, message);
            hasher.begin();
            hasher.takeAll(secretKey.kappa);
            hasher.takeLong(with);
            hasher.takeAll(transcript.mu);
            System.arraycopy(hasher.finish(), 0, nu, 0, DIGEST_BYTES);
        }

        boolean trySucceeds(Hasher hasher, SecretKey secretKey, int k) {
            Samples.fillWideVector(hasher, nu, 2 * k, y);
            Ring.applyMatrix(secretKey.matrix, y, w);
            noteHighs();
            transcript.close(hasher);
            Samples.fillBall(hasher, transcript.seal, c);
            answer(secretKey);
            return Ring.size(z) < Z_LIMIT && lowsAreShort() && Ring.size(v) < V_LIMIT
                    && fillHints() <= MOST_HINTS;
        }

        void writeTo(int[] signature) {
            System.arraycopy(transcript.seal, 0, signature, 0, SHORT_BYTES);
            for (int i = 0; i < VECTOR; i++) {
                Packing.write(signature, Z_FROM, i, WIDE_BITS, WIDE_MIDDLE - Ring.centered(z[i]));
            }
            writeHints(signature);
        }

        private void noteHighs() {
            for (int i = 0; i < VECTOR; i++) {
                transcript.setHigh(i, Rounding.highOf(w[i]));
            }
        }

        private void answer(SecretKey secretKey) {
            Ring.applyPolynomial(c, secretKey.s, z);
            Ring.applyPolynomial(c, secretKey.e, u);
            Ring.applyPolynomial(c, secretKey.t0, v);
            for (int i = 0; i < VECTOR; i++) {
                z[i] = Ring.reduce(y[i] + z[i]);
                u[i] = Ring.reduce(w[i] - u[i]);
            }
        }

        private boolean lowsAreShort() {
            for (int i = 0; i < VECTOR; i++) {
                if (Math.abs(Rounding.lowOf(u[i])) >= LOW_LIMIT) {
                    return false;
                }
            }
            return true;
        }

        private int fillHints() {
            int count = 0;
            for (int i = 0; i < VECTOR; i++) {
                hints[i] = Rounding.hintOf(-v[i], Ring.reduce(u[i] + v[i]));
                count += hints[i];
            }
            return count;
        }

        private void writeHints(int[] signature) {
            int first = writePlaces(signature, 0, 0);
            int both = writePlaces(signature, first, N);
            clearRest(signature, HINTS_FROM, both, MOST_HINTS);
            signature[FIRST_COUNT_AT] = first;
            signature[BOTH_COUNT_AT] = both;
        }

        /** Writes one polynomial's places behind those of the count hints there are; answers the new count. */
        private int writePlaces(int[] signature, int count, int polynomialFrom) {
            int written = count;
            for (int place = 0; place < N && written < MOST_HINTS; place++) {
                if (hints[polynomialFrom + place] == 1) {
                    signature[HINTS_FROM + written] = place;
                    written++;
                }
            }
            return written;
        }
    }

    /** One call of verify, over any bytes. */
    private static final class Verifying {
        private final Transcript transcript = new Transcript();
        private final int[] trace = new int[SHORT_BYTES];
        private final int[] matrix = new int[MATRIX];
        private final int[] scaledT1 = new int[VECTOR];
        private final int[] z = new int[VECTOR];
        private final int[] c = new int[N];
        private final int[] hints = new int[VECTOR];
        private final int[] byMatrix = new int[VECTOR];
        private final int[] byBall = new int[VECTOR];

        boolean holds(Hasher hasher, int[] publicKey, Message message, int[] signature) {
            readZ(signature);
            if (!readHints(signature) || Ring.size(z) >= Z_LIMIT) {
                return false;
            }
            SecretKey.fillTrace(hasher, publicKey, trace);
            transcript.open(hasher, trace, message);
            Samples.fillMatrix(hasher, publicKey, matrix);
            Samples.fillBall(hasher, signature, c);
            readT1(publicKey);
            correctAll();
            transcript.close(hasher);
            return transcript.hasSealOf(signature);
        }

        private void readZ(int[] signature) {
            for (int i = 0; i < VECTOR; i++) {
                z[i] = WIDE_MIDDLE - Packing.read(signature, Z_FROM, i, WIDE_BITS);
            }
        }

        /** False when the hints are written in another way than signing writes them. */
        private boolean readHints(int[] signature) {
            int first = signature[FIRST_COUNT_AT];
            int both = signature[BOTH_COUNT_AT];
            if (first > both || both > MOST_HINTS) {
                return false;
            }
            Arrays.fill(hints, 0);
            return readPlaces(signature, 0, first, 0)
                    && readPlaces(signature, first, both, N)
                    && isZeroBehind(signature, both);
        }

        private boolean readPlaces(int[] signature, int from, int to, int polynomialFrom) {
            int before = -1;
            for (int k = from; k < to; k++) {
                int place = signature[HINTS_FROM + k];
                if (place <= before || place >= N) {
                    return false;
                }
                hints[polynomialFrom + place] = 1;
                before = place;
            }
            return true;
        }

        private static boolean isZeroBehind(int[] signature, int count) {
            for (int k = count; k < MOST_HINTS; k++) {
                if (signature[HINTS_FROM + k] != 0) {
                    return false;
                }
            }
            return true;
        }

        private void readT1(int[] publicKey) {
            for (int i = 0; i < VECTOR; i++) {
                // Any bytes may lie there, so that 256 * t1 may be q or more.
                scaledT1[i] = Ring.reduce(UPPER_STEP * Packing.read(publicKey, T1_FROM, i, T1_BITS));
            }
        }

        private void correctAll() {
            Ring.applyMatrix(matrix, z, byMatrix);
            Ring.applyPolynomial(c, scaledT1, byBall);
            for (int i = 0; i < VECTOR; i++) {
                int r = Ring.reduce(byMatrix[i] - byBall[i]);
                transcript.setHigh(i, Rounding.correctedBy(hints[i], r));
            }
        }
    }
}
