/**
 * What the terms say of polynomials, upper and lower parts, samples and keys, at their boundaries. Seeds
 * and seals were searched for; each test first makes sure that its boundary case is really there.
 */
public final class SamplesTest {
    private static final int Q = 8380417;

    private static int[] rhoOf(long seed) {
        return java.util.Arrays.copyOf(Reference.h(Reference.bytesOf(seed), 24), 8);
    }

    private static int[] sigmaOf(long seed) {
        return java.util.Arrays.copyOfRange(Reference.h(Reference.bytesOf(seed), 24), 8, 16);
    }

    /** The number of 24 bits at a place of what A[i][j] with 2 * i + j = which is made of. */
    private static int uniformNumber(long seed, int which, int place) {
        int[] bytes = Reference.h(Reference.join(rhoOf(seed), new int[] {which}), 135);
        return bytes[3 * place] | bytes[3 * place + 1] << 8 | bytes[3 * place + 2] << 16;
    }

    private static void duePublic(long seed) {
        Due.due("key(" + seed + "): public key", Signers.publicOf(Signers.withKey(seed)), Gold.publicOf(seed));
    }

    private static void dueSigned(long seed, long with) {
        ShortVectorSigner x = Signers.withKey(seed);
        Due.due("key(" + seed + "), sign(" + with + ", 30)", x.sign(with, 30), Gold.tryOf(seed, "", with));
        Due.due("signature", Signers.signatureOf(x), Gold.signatureOf(seed, "", with));
        Due.due("verify()", x.verify(), true);
    }

    // ---- UNIFORM

    private static void uniformLessThanQ() {
        Due.sentence("UNIFORM: the first 16 of these that are less than q, and q is not");
        Due.due("the number", uniformNumber(38307L, 3, 9), Q);
        duePublic(38307L);
        dueSigned(38307L, 1L);
        Due.due("the number", uniformNumber(59166L, 1, 12), Q);
        duePublic(59166L);
        Due.sentence("UNIFORM: the first 16 of these that are less than q, and q - 1 is");
        Due.due("the number", uniformNumber(451990L, 0, 4), Q - 1);
        duePublic(451990L);
        dueSigned(451990L, 1L);
    }

    private static void uniformHighestBit() {
        Due.sentence("UNIFORM: whose highest bit is made 0");
        Due.due("the number", uniformNumber(340769L, 3, 10), Q + (1 << 23));
        duePublic(340769L);
        dueSigned(340769L, 1L);
        Due.due("the number", uniformNumber(95033L, 2, 12), Q - 1 + (1 << 23));
        duePublic(95033L);
        dueSigned(95033L, 1L);
        Due.due("the number", uniformNumber(437435L, 0, 7), Q - 1 + (1 << 23));
        duePublic(437435L);
    }

    // ---- SMALL

    private static void smallNumbers() {
        Due.sentence("SMALL: each byte gives its lower four bits, then its upper four; those that are not 15");
        long[] numbers = Reference.unpack(4, Reference.h(Reference.join(sigmaOf(3L), new int[] {1}), 64));
        int[] due = {12, 15, 13, 15, 1, 3, 13, 13, 9, 14, 15, 9, 13, 0, 15, 7, 15, 1, 4, 15};
        for (int i = 0; i < due.length; i++) {
            Due.due("number " + i, numbers[i], due[i]);
        }
        Due.sentence("SMALL: give the coefficients 2 - u % 5, from 2 (u is 0) to -2 (u is 14)");
        int[] s1 = {0, -1, 1, -1, -1, -1, -2, -2, -2, -1, 2, 0, 1, -2, 2, 1};
        ShortVectorSigner x = Signers.withKey(3L);
        for (int i = 0; i < 16; i++) {
            Due.due("key(3): secret(1, " + i + ")", x.secret(1, i), s1[i]);
        }
        duePublic(3L);
    }

    // ---- WIDE: its ends decide tries

    private static void wideEnds() {
        Due.sentence("WIDE: the coefficients are 512 - u, and u is 1023");
        Reference.Try least = lookAt(2L, 1549L);
        Due.due("the least of y", least.leastY, -511);
        Due.due("the size of z", least.sizeZ, 503);
        dueSigned(2L, 1549L);
        Due.sentence("WIDE: the coefficients are 512 - u, and u is 0");
        Reference.Try greatest = lookAt(2L, 3277L);
        Due.due("the greatest of y", greatest.greatestY, 512);
        Due.due("the size of z", greatest.sizeZ, 504);
        Due.due("key(2), sign(3277, 1)", Signers.withKey(2L).sign(3277L, 1), -2);
        dueSigned(2L, 3277L);
    }

    private static Reference.Try lookAt(long seed, long with) {
        Reference reference = new Reference();
        reference.key(seed);
        return reference.look(with, 1);
    }

    // ---- BALL

    private static void dueBall(String what, int firstByte, String want) {
        ShortVectorSigner x = new ShortVectorSigner();
        x.putSignature(0, firstByte);
        Due.due(what + ": putSignature(0, " + firstByte + "), ball", Signers.ballOf(x), want);
    }

    private static void ballAtMostI() {
        Due.sentence("BALL: whose lowest four bits j are at most i, and j is i");
        dueBall("i = 12", 4, "0 1 0 0 0 0 1 0 1 0 0 0 1 0 0 0");
        dueBall("i = 13", 20, "-1 0 0 0 -1 0 0 0 0 -1 0 0 0 1 0 0");
        dueBall("i = 14", 11, "0 0 -1 0 0 1 0 0 0 0 0 1 0 0 -1 0");
        dueBall("i = 15", 87, "0 -1 0 0 0 -1 0 0 1 0 0 0 0 0 0 1");
        Due.sentence("BALL: those before it being left out, and j is i + 1");
        dueBall("i = 12", 2, "1 0 0 0 0 0 -1 1 1 0 0 0 0 0 0 0");
        dueBall("i = 13", 67, "1 0 0 0 0 0 0 1 0 0 0 1 -1 0 0 0");
        dueBall("i = 14", 42, "0 0 0 1 0 0 0 0 0 0 0 0 0 1 -1 1");
        Due.sentence("BALL: those before it being left out, several of them");
        dueBall("13, 14 and 14, 14", 75, "-1 0 0 0 0 0 0 0 0 0 -1 -1 0 0 1 0");
        dueBall("13, 15, 15 and 15", 209, "0 0 0 0 0 1 0 1 0 0 0 1 0 -1 0 0");
    }

    private static void ballMoves() {
        Due.sentence("BALL: coefficient i becomes what coefficient j is");
        dueBall("-1 goes to 13", 0, "0 1 0 0 0 0 0 0 1 0 0 0 1 -1 0 0");
        dueBall("1 goes to 14", 6, "-1 0 0 0 -1 0 0 0 0 0 0 -1 0 0 1 0");
        dueBall("1 goes to 15", 8, "0 0 0 0 0 0 -1 -1 0 0 0 0 0 -1 0 1");
        dueBall("three go up", 13, "0 0 0 0 0 0 0 0 0 0 1 0 0 -1 -1 -1");
    }

    private static void ballSigns() {
        Due.sentence("BALL: coefficient j 1, or -1 if bit i - 12 of SIGNS is 1");
        Due.due("SIGNS of 1", signsOf(1), 64);
        dueBall("bits 0 .. 3 are 0", 1, "1 0 1 0 0 0 0 0 0 1 0 0 0 1 0 0");
        Due.due("SIGNS of 9", signsOf(9), 79);
        dueBall("bits 0 .. 3 are 1", 9, "0 -1 0 0 -1 0 0 -1 0 0 0 0 0 0 -1 0");
    }

    private static int signsOf(int firstByte) {
        return Reference.h(new int[] {firstByte, 0, 0, 0, 0, 0, 0, 0}, 1)[0];
    }

    private static void manyBalls() {
        Due.sentence("BALL of many seals");
        for (int n = 0; n < 256; n++) {
            ShortVectorSigner x = new ShortVectorSigner();
            Reference reference = new Reference();
            int[] seal = Reference.bytesOf(n * 0x9E3779B97F4A7C15L);
            int count = 0;
            for (int i = 0; i < 8; i++) {
                x.putSignature(i, seal[i]);
                reference.putSignature(i, seal[i]);
            }
            for (int i = 0; i < 16; i++) {
                Due.due("seal " + Signers.hexOf(seal) + ": ball(" + i + ")", x.ball(i), reference.ball(i));
                count += x.ball(i) * x.ball(i);
            }
            Due.due("seal " + Signers.hexOf(seal) + ": coefficients that are not 0", count, 4);
        }
    }

    // ---- polynomials and keys

    /** Upper part number place of a public key. */
    private static int upperOf(ShortVectorSigner x, int place) {
        int upper = 0;
        for (int k = 0; k < 15; k++) {
            int bit = 15 * place + k;
            upper += (x.publicByte(8 + bit / 8) >> bit % 8 & 1) << k;
        }
        return upper;
    }

    private static void dueParts(long seed, int place, int upper, int lower) {
        ShortVectorSigner x = Signers.withKey(seed);
        Due.due("key(" + seed + "): upper part " + place, upperOf(x, place), upper);
        Due.due("key(" + seed + "): lower part " + place, x.secret(4 + place / 16, place % 16), lower);
        duePublic(seed);
    }

    private static void lowerParts() {
        Due.sentence("LOWER part c, c being r less a multiple of 256, from -127");
        dueParts(17L, 5, 24904, -127);
        Due.sentence("LOWER part c, c being r less a multiple of 256, to 128");
        dueParts(15L, 16, 18659, 128);
    }

    private static void endsOfT() {
        Due.sentence("UPPER part of r is (r - c) / 256, and r is q - 1");
        dueParts(43467L, 27, 32736, 0);
        Due.sentence("UPPER part of r is (r - c) / 256, and r is 0");
        dueParts(207850L, 27, 0, 0);
        Due.sentence("t = A s + e, going below 0");
        dueParts(35501L, 7, 32736, 0);
        dueParts(1162628L, 6, 32736, 0);
        dueSigned(35501L, 1L);
        Due.sentence("t = A s + e, going over q - 1");
        dueParts(741492L, 11, 0, 0);
        dueParts(771466L, 12, 0, 0);
        dueSigned(741492L, 1L);
    }

    /** The document's own formula, by hand. */
    private static long productAt(int i, long[] f, long[] g) {
        long sum = 0;
        for (int j = 0; j <= i; j++) {
            sum += f[j] * g[i - j];
        }
        for (int j = i + 1; j <= 15; j++) {
            sum -= f[j] * g[16 + i - j];
        }
        return sum;
    }

    private static long[] secretRow(ShortVectorSigner x, int which) {
        long[] row = new long[16];
        for (int i = 0; i < 16; i++) {
            row[i] = x.secret(which, i);
        }
        return row;
    }

    private static void productsWrap() {
        Due.sentence("coefficient i of the product .., less the sum of f(j) * g(16 + i - j) for j from i + 1 to 15");
        for (long seed = 0; seed < 20; seed++) {
            ShortVectorSigner x = Signers.withKey(seed);
            for (int i = 0; i < 2; i++) {
                long[] left = Reference.uniform(Reference.join(rhoOf(seed), new int[] {2 * i}));
                long[] right = Reference.uniform(Reference.join(rhoOf(seed), new int[] {2 * i + 1}));
                for (int k : new int[] {0, 1, 14, 15}) {
                    long t = productAt(k, left, secretRow(x, 0)) + productAt(k, right, secretRow(x, 1))
                            + x.secret(2 + i, k);
                    Due.due("key(" + seed + "): t[" + i + "], coefficient " + k,
                            256L * upperOf(x, 16 * i + k) + x.secret(4 + i, k), Math.floorMod(t, (long) Q));
                }
            }
        }
    }

    private static void sizesOfSecrets() {
        Due.sentence("SIZE: each taken as the number from -(q - 1) / 2 to (q - 1) / 2 that it is mod q");
        ShortVectorSigner x = Signers.withKey(1L);
        Due.due("secret(0, 5), which is -2", x.secret(0, 5), -2);
        Due.due("secret(2, 2), which is -2", x.secret(2, 2), -2);
        int least = 0;
        int greatest = 0;
        for (int i = 64; i < 96; i++) {
            least = Math.min(least, x.secret(i / 16, i % 16));
            greatest = Math.max(greatest, x.secret(i / 16, i % 16));
        }
        Due.due("some t0 is below 0, none below -127", least < 0 && least >= -127, true);
        Due.due("some t0 is above 0, none above 128", greatest > 0 && greatest <= 128, true);
    }

    public static void main(String[] args) {
        uniformLessThanQ();
        uniformHighestBit();
        smallNumbers();
        wideEnds();
        ballAtMostI();
        ballMoves();
        ballSigns();
        manyBalls();
        lowerParts();
        endsOfT();
        productsWrap();
        sizesOfSecrets();
        Due.end();
    }
}
