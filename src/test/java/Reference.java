import java.util.Arrays;

/**
 * A second reading of the document, for the tests to compare with: written for likeness to its words,
 * by other ways than the program's (constants worked out, whole products folded, lists of bits).
 */
final class Reference {
    static final int Q = 8380417;

    /** What a try came to, before it is judged. */
    static final class Try {
        int[] seal;
        long[][] z;
        int greatestY;
        int leastY;
        int[] lows = new int[32];
        long[][] u;
        long[][] v;
        int sizeZ;
        int greatestLow;
        int leastLow;
        int sizeV;
        int[][] hints;
        int hintCount;

        boolean fails() {
            return sizeZ >= 504 || greatestLow >= 1015 || leastLow <= -1015 || sizeV >= 1023 || hintCount > 12;
        }
    }

    int[] message = {};
    int[] publicKey = new int[68];
    int[] signature = new int[62];
    private boolean hasKey;
    private int[] rho;
    private int[] kappa;
    private int[] trace;
    private long[][] s;
    private long[][] e;
    private long[][] t0;

    // ---- bytes and bits

    static int[] join(int[]... parts) {
        int[] all = {};
        for (int[] part : parts) {
            int from = all.length;
            all = Arrays.copyOf(all, from + part.length);
            System.arraycopy(part, 0, all, from, part.length);
        }
        return all;
    }

    static int[] bytesOf(long x) {
        int[] bytes = new int[8];
        for (int i = 0; i < 8; i++) {
            bytes[i] = (int) (x & 255);
            x >>= 8;
        }
        return bytes;
    }

    static int[] pack(int width, long... numbers) {
        int[] bytes = new int[(numbers.length * width + 7) / 8];
        int at = 0;
        for (long number : numbers) {
            for (int k = 0; k < width; k++, at++) {
                if ((number & (1L << k)) != 0) {
                    bytes[at / 8] += 1 << (at % 8);
                }
            }
        }
        return bytes;
    }

    static long[] unpack(int width, int[] bytes) {
        long[] numbers = new long[bytes.length * 8 / width];
        for (int at = 0; at < numbers.length * width; at++) {
            if ((bytes[at / 8] & (1 << (at % 8))) != 0) {
                numbers[at / width] += 1L << (at % width);
            }
        }
        return numbers;
    }

    // ---- H

    static int[] h(int[] x, int n) {
        int[] block = Arrays.copyOf(x, 200);
        block[x.length] = 31;
        block[135] ^= 128;
        long[] lane = new long[25];
        for (int i = 0; i < 200; i++) {
            lane[i / 8] |= (long) block[i] << (8 * (i % 8));
        }
        for (int r = 0; r < 24; r++) {
            lane = round(lane, r);
        }
        int[] out = new int[n];
        for (int i = 0; i < n; i++) {
            out[i] = (int) (lane[i / 8] >>> (8 * (i % 8)) & 255);
        }
        return out;
    }

    private static final int[] R = rotations();
    private static final int[] K = roundBits();

    private static int[] rotations() {
        int[] rotations = new int[25];
        int a = 1;
        int b = 0;
        for (int t = 1; t <= 24; t++) {
            rotations[a + 5 * b] = t * (t + 1) / 2 % 64;
            int next = (2 * a + 3 * b) % 5;
            a = b;
            b = next;
        }
        return rotations;
    }

    private static int[] roundBits() {
        int[] bits = new int[7 * 24];
        int g = 1;
        for (int t = 0; t < bits.length; t++) {
            bits[t] = g & 1;
            g = 2 * g;
            if (g > 255) {
                g ^= 369;
            }
        }
        return bits;
    }

    private static final int[] UP = {1, 2, 3, 4, 0};
    private static final int[] DOWN = {4, 0, 1, 2, 3};

    private static long[] round(long[] lane, int r) {
        long[] c = new long[5];
        for (int i = 0; i < 25; i++) {
            c[i % 5] ^= lane[i];
        }
        long[] moved = new long[25];
        for (int b = 0; b < 5; b++) {
            for (int a = 0; a < 5; a++) {
                long mixed = lane[a + 5 * b] ^ c[DOWN[a]] ^ Long.rotateLeft(c[UP[a]], 1);
                moved[b + 5 * ((2 * a + 3 * b) % 5)] = Long.rotateLeft(mixed, R[a + 5 * b]);
            }
        }
        long[] after = new long[25];
        for (int b = 0; b < 25; b += 5) {
            for (int a = 0; a < 5; a++) {
                after[a + b] = moved[a + b] ^ (~moved[UP[a] + b] & moved[UP[UP[a]] + b]);
            }
        }
        for (int j = 0; j <= 6; j++) {
            after[0] ^= (long) K[7 * r + j] << ((1 << j) - 1);
        }
        return after;
    }

    // ---- polynomials

    static long mod(long x) {
        return Math.floorMod(x, (long) Q);
    }

    static int centered(long x) {
        long r = mod(x);
        return (int) (r <= (Q - 1) / 2 ? r : r - Q);
    }

    static long[] times(long[] f, long[] g) {
        long[] whole = new long[32];
        for (int i = 0; i < 16; i++) {
            for (int j = 0; j < 16; j++) {
                whole[i + j] = mod(whole[i + j] + mod(f[i]) * mod(g[j]));
            }
        }
        long[] folded = new long[16];
        for (int i = 0; i < 16; i++) {
            folded[i] = mod(whole[i] - whole[i + 16]);
        }
        return folded;
    }

    static long[] plus(long[] f, long[] g, int sign) {
        long[] sum = new long[16];
        for (int i = 0; i < 16; i++) {
            sum[i] = mod(f[i] + sign * g[i]);
        }
        return sum;
    }

    static long[][] plus(long[][] v, long[][] w, int sign) {
        return new long[][] {plus(v[0], w[0], sign), plus(v[1], w[1], sign)};
    }

    static long[][] times(long[] c, long[][] v) {
        return new long[][] {times(c, v[0]), times(c, v[1])};
    }

    static long[][] timesMatrix(int[] rho, long[][] v) {
        long[][] product = new long[2][];
        for (int i = 0; i < 2; i++) {
            product[i] = plus(
                    times(uniform(join(rho, new int[] {2 * i})), v[0]),
                    times(uniform(join(rho, new int[] {2 * i + 1})), v[1]), 1);
        }
        return product;
    }

    static int size(long[][] v) {
        int greatest = 0;
        for (long[] polynomial : v) {
            for (long x : polynomial) {
                greatest = Math.max(greatest, Math.abs(centered(x)));
            }
        }
        return greatest;
    }

    static long[] flat(long[][] v) {
        long[] all = Arrays.copyOf(v[0], 32);
        System.arraycopy(v[1], 0, all, 16, 16);
        return all;
    }

    // ---- rounding

    private static int rest(long r, int step) {
        int least = 1 - step / 2;
        return (int) (Math.floorMod(r - least, (long) step) + least);
    }

    static int highOf(long r) {
        int c = rest(r, 2046);
        return r - c == Q - 1 ? 0 : (int) ((r - c) / 2046);
    }

    static int lowOf(long r) {
        int c = rest(r, 2046);
        return r - c == Q - 1 ? c - 1 : c;
    }

    static int hintOf(long z, long r) {
        return highOf(mod(r)) != highOf(mod(r + z)) ? 1 : 0;
    }

    static int correctedOf(int hint, long r) {
        if (hint == 0) {
            return highOf(r);
        }
        return Math.floorMod(lowOf(r) > 0 ? highOf(r) + 1 : highOf(r) - 1, 4096);
    }

    // ---- samples

    static long[] uniform(int[] x) {
        int[] bytes = h(x, 135);
        long[] f = new long[16];
        int n = 0;
        for (int i = 0; i < 45 && n < 16; i++) {
            long number = (bytes[3 * i] + 256L * bytes[3 * i + 1] + 65536L * bytes[3 * i + 2]) % 8388608;
            if (number < Q) {
                f[n++] = number;
            }
        }
        return f;
    }

    static long[] small(int[] x) {
        long[] f = new long[16];
        int n = 0;
        for (long u : unpack(4, h(x, 64))) {
            if (u != 15 && n < 16) {
                f[n++] = 2 - u % 5;
            }
        }
        return f;
    }

    static long[] wide(int[] x) {
        long[] f = unpack(10, h(x, 20));
        for (int i = 0; i < 16; i++) {
            f[i] = 512 - f[i];
        }
        return f;
    }

    static long[] ballOf(int[] x) {
        int[] bytes = h(x, 33);
        long[] f = new long[16];
        int next = 1;
        for (int i = 12; i <= 15; i++) {
            int j = 99;
            while (j > i) {
                j = next == 33 ? 0 : bytes[next++] % 16;
            }
            f[i] = f[j];
            f[j] = (bytes[0] >> (i - 12)) % 2 == 1 ? -1 : 1;
        }
        return f;
    }

    // ---- the face

    void key(long seed) {
        int[] bytes = h(bytesOf(seed), 24);
        rho = Arrays.copyOfRange(bytes, 0, 8);
        int[] sigma = Arrays.copyOfRange(bytes, 8, 16);
        kappa = Arrays.copyOfRange(bytes, 16, 24);
        s = new long[][] {small(join(sigma, new int[] {0})), small(join(sigma, new int[] {1}))};
        e = new long[][] {small(join(sigma, new int[] {2})), small(join(sigma, new int[] {3}))};
        long[][] t = plus(timesMatrix(rho, s), e, 1);
        t0 = new long[2][16];
        long[] t1 = new long[32];
        for (int i = 0; i < 32; i++) {
            t0[i / 16][i % 16] = rest(t[i / 16][i % 16], 256);
            t1[i] = (t[i / 16][i % 16] - t0[i / 16][i % 16]) / 256;
        }
        publicKey = join(rho, pack(15, t1));
        trace = h(publicKey, 8);
        hasKey = true;
    }

    boolean say(int b) {
        if (b < 0 || b > 255 || message.length == 24) {
            return false;
        }
        message = join(message, new int[] {b});
        return true;
    }

    void hush() {
        message = new int[0];
    }

    Try look(long with, int k) {
        int[] mu = h(join(trace, message), 16);
        int[] nu = h(join(kappa, bytesOf(with), mu), 16);
        long[][] y = {wide(join(nu, new int[] {2 * k})), wide(join(nu, new int[] {2 * k + 1}))};
        long[][] w = timesMatrix(rho, y);
        long[] highs = new long[32];
        for (int i = 0; i < 32; i++) {
            highs[i] = highOf(w[i / 16][i % 16]);
        }
        Try t = new Try();
        t.seal = h(join(mu, pack(12, highs)), 8);
        long[] c = ballOf(t.seal);
        t.z = plus(y, times(c, s), 1);
        long[][] u = plus(w, times(c, e), -1);
        long[][] v = times(c, t0);
        t.u = u;
        t.v = v;
        t.sizeZ = size(t.z);
        t.sizeV = size(v);
        t.hints = new int[2][16];
        for (int p = 0; p < 2; p++) {
            for (int i = 0; i < 16; i++) {
                t.lows[16 * p + i] = lowOf(u[p][i]);
                t.greatestY = Math.max(t.greatestY, (int) y[p][i]);
                t.leastY = Math.min(t.leastY, (int) y[p][i]);
                t.greatestLow = Math.max(t.greatestLow, lowOf(u[p][i]));
                t.leastLow = Math.min(t.leastLow, lowOf(u[p][i]));
                t.hints[p][i] = hintOf(-v[p][i], u[p][i] + v[p][i]);
                t.hintCount += t.hints[p][i];
            }
        }
        return t;
    }

    static int[] signatureOf(int[] seal, long[][] z, int[][] hints) {
        long[] numbers = new long[32];
        for (int i = 0; i < 32; i++) {
            numbers[i] = 512 - centered(z[i / 16][i % 16]);
        }
        int[] bytes = Arrays.copyOf(join(seal, pack(10, numbers)), 62);
        int at = 48;
        for (int p = 0; p < 2; p++) {
            for (int i = 0; i < 16; i++) {
                if (hints[p][i] == 1) {
                    bytes[at++] = i;
                }
            }
            bytes[60 + p] = at - 48;
        }
        return bytes;
    }

    int sign(long with, int tries) {
        if (!hasKey || tries < 1 || tries > 30) {
            return -1;
        }
        for (int k = 1; k <= tries; k++) {
            Try t = look(with, k);
            if (!t.fails()) {
                signature = signatureOf(t.seal, t.z, t.hints);
                return k;
            }
        }
        return -2;
    }

    /** A z - c * 256 * t1. */
    static long[][] uncorrected(int[] publicKey, long[][] z, long[] c) {
        long[] t1 = unpack(15, Arrays.copyOfRange(publicKey, 8, 68));
        long[][] scaled = new long[2][16];
        for (int i = 0; i < 32; i++) {
            scaled[i / 16][i % 16] = mod(256 * t1[i]);
        }
        return plus(timesMatrix(Arrays.copyOf(publicKey, 8), z), times(c, scaled), -1);
    }

    /** Its 32 coefficients, corrected and packed. */
    static int[] correctedHighs(int[] publicKey, long[][] z, long[] c, int[][] hints) {
        long[][] w = uncorrected(publicKey, z, c);
        long[] highs = new long[32];
        for (int i = 0; i < 32; i++) {
            highs[i] = correctedOf(hints[i / 16][i % 16], w[i / 16][i % 16]);
        }
        return pack(12, highs);
    }

    boolean verify() {
        int[] seal = Arrays.copyOf(signature, 8);
        long[] numbers = unpack(10, Arrays.copyOfRange(signature, 8, 48));
        long[][] z = new long[2][16];
        for (int i = 0; i < 32; i++) {
            z[i / 16][i % 16] = 512 - numbers[i];
        }
        int[][] hints = new int[2][16];
        if (signature[60] > signature[61] || signature[61] > 12) {
            return false;
        }
        for (int k = 0; k < signature[61]; k++) {
            if (signature[48 + k] < 16) {
                hints[k < signature[60] ? 0 : 1][signature[48 + k]] = 1;
            }
        }
        // Written in just one way: writing what was read must give the very same bytes.
        if (!Arrays.equals(signature, signatureOf(seal, z, hints)) || size(z) >= 504) {
            return false;
        }
        int[] mu = h(join(h(publicKey, 8), message), 16);
        int[] highs = correctedHighs(publicKey, z, ballOf(seal), hints);
        return Arrays.equals(h(join(mu, highs), 8), seal);
    }

    int publicByte(int i) {
        return i < 0 || i > 67 ? -1 : publicKey[i];
    }

    int signatureByte(int i) {
        return i < 0 || i > 61 ? -1 : signature[i];
    }

    boolean putPublic(int i, int b) {
        if (i < 0 || i > 67 || b < 0 || b > 255) {
            return false;
        }
        publicKey[i] = b;
        return true;
    }

    boolean putSignature(int i, int b) {
        if (i < 0 || i > 61 || b < 0 || b > 255) {
            return false;
        }
        signature[i] = b;
        return true;
    }

    int secret(int which, int i) {
        if (!hasKey || which < 0 || which > 5 || i < 0 || i > 15) {
            return 0;
        }
        return centered(new long[][] {s[0], s[1], e[0], e[1], t0[0], t0[1]}[which][i]);
    }

    int hash(int i) {
        return i < 0 || i > 135 ? -1 : h(message, 136)[i];
    }

    int ball(int i) {
        return i < 0 || i > 15 ? 0 : (int) ballOf(Arrays.copyOf(signature, 8))[i];
    }

    int high(int r) {
        return highOf(mod(r));
    }

    int low(int r) {
        return lowOf(mod(r));
    }

    int hint(int z, int r) {
        return hintOf(z, r);
    }

    int corrected(int h, int r) {
        return correctedOf(h & 1, mod(r));
    }
}
