import java.util.Arrays;
import java.util.Random;

/**
 * Verifying any bytes, at its limits. There are only 29120 balls, so for any public key, z and hints a
 * message can be searched for whose seal fits: all that verifying asks then holds, but for the limit
 * that the test is about.
 */
public final class VerifyingEdgesTest {
    private static final int MOST_MESSAGES = 1000000;
    private static final int MOST_SIGNATURES = 5000;
    private static final int[] SOME_SEAL = {1, 2, 3, 4, 5, 6, 7, 8};

    private final int[] publicKey;
    private final long[][] z = new long[2][16];
    private final int[][] hints = new int[2][16];
    private int[] message;
    private int[] signature;

    private VerifyingEdgesTest(int[] publicKey) {
        this.publicKey = publicKey;
        Random random = new Random(1);
        for (int i = 0; i < 32; i++) {
            z[i / 16][i % 16] = random.nextInt(1001) - 500;
        }
    }

    private static int[] allBytes(int b) {
        int[] bytes = new int[68];
        Arrays.fill(bytes, b);
        return bytes;
    }

    private static int[] ordinaryKey() {
        Reference reference = new Reference();
        reference.key(2026L);
        return reference.publicKey;
    }

    private VerifyingEdgesTest hint(int polynomial, int... places) {
        for (int place : places) {
            hints[polynomial][place] = 1;
        }
        return this;
    }

    private VerifyingEdgesTest coefficient(int i, int number) {
        z[i / 16][i % 16] = number;
        return this;
    }

    private VerifyingEdgesTest search() {
        long[] c = Reference.ballOf(SOME_SEAL);
        int[] trace = Reference.h(publicKey, 8);
        int[] highs = Reference.correctedHighs(publicKey, z, c, hints);
        for (int n = 0; n < MOST_MESSAGES; n++) {
            message = Arrays.copyOf(Reference.bytesOf(n), 3);
            int[] mu = Reference.h(Reference.join(trace, message), 16);
            int[] seal = Reference.h(Reference.join(mu, highs), 8);
            if (Arrays.equals(Reference.ballOf(seal), c)) {
                signature = Reference.signatureOf(seal, z, hints);
                return this;
            }
        }
        throw new IllegalStateException("no message fits");
    }

    private void due(String what, boolean want) {
        ShortVectorSigner x = new ShortVectorSigner();
        for (int i = 0; i < 68; i++) {
            x.putPublic(i, publicKey[i]);
        }
        for (int i = 0; i < 62; i++) {
            x.putSignature(i, signature[i]);
        }
        for (int b : message) {
            x.say(b);
        }
        Due.due(what + ": verify()", x.verify(), want);
    }

    /** As due, but with some bytes of the signature changed: i, b, i, b, .. */
    private void dueChanged(String what, int... changes) {
        int[] whole = signature.clone();
        for (int k = 0; k < changes.length; k += 2) {
            signature[changes[k]] = changes[k + 1];
        }
        due(what + " " + Arrays.toString(changes), false);
        signature = whole;
    }

    private static void anyPublicKey() {
        new VerifyingEdgesTest(allBytes(0)).search().due("a public key of 0", true);
        new VerifyingEdgesTest(allBytes(255)).search().due("a public key of 255, t1 beyond q", true);
        new VerifyingEdgesTest(ordinaryKey()).search().due("a key's public key", true);
    }

    private static void sizeOfZ() {
        new VerifyingEdgesTest(ordinaryKey()).coefficient(0, 503).search().due("z with 503", true);
        new VerifyingEdgesTest(ordinaryKey()).coefficient(31, -503).search().due("z with -503", true);
        new VerifyingEdgesTest(ordinaryKey()).coefficient(0, 504).search().due("z with 504", false);
        new VerifyingEdgesTest(ordinaryKey()).coefficient(31, -504).search().due("z with -504", false);
        new VerifyingEdgesTest(ordinaryKey()).coefficient(15, 512).search().due("z with 512", false);
        new VerifyingEdgesTest(ordinaryKey()).coefficient(16, -511).search().due("z with -511", false);
    }

    private static void hintsOfOnePolynomial() {
        int[] twelve = {0, 1, 2, 4, 5, 7, 8, 10, 11, 12, 14, 15};
        VerifyingEdgesTest first = new VerifyingEdgesTest(ordinaryKey()).hint(0, twelve).search();
        first.due("twelve hints in polynomial 0", true);
        first.dueChanged("counts", 61, 13);
        first.dueChanged("counts", 60, 13);
        first.dueChanged("counts", 60, 13, 61, 13);
        first.dueChanged("counts", 60, 255, 61, 255);
        first.dueChanged("counts", 61, 11);
        first.dueChanged("counts", 61, 0);
        first.dueChanged("counts", 60, 0);
        VerifyingEdgesTest second = new VerifyingEdgesTest(allBytes(3)).hint(1, twelve).search();
        second.due("twelve hints in polynomial 1", true);
        second.dueChanged("counts", 60, 12);
        second.dueChanged("counts", 61, 13);
        second.dueChanged("counts", 61, 255);
        second.dueChanged("a place twice", 49, 0);
    }

    private static void hintsOfBothPolynomials() {
        VerifyingEdgesTest x = new VerifyingEdgesTest(ordinaryKey()).hint(0, 3, 15).hint(1, 0, 9).search();
        x.due("hints 3, 15 and 0, 9", true);
        x.dueChanged("not growing", 48, 15, 49, 3);
        x.dueChanged("not growing", 50, 9, 51, 0);
        for (int k = 0; k < 4; k++) {
            for (int more = 16; more < 256 - 16; more += 16) {
                x.dueChanged("a place above 15", 48 + k, x.signature[48 + k] + more);
            }
        }
        for (int k = 4; k < 12; k++) {
            x.dueChanged("not 0 behind the last", 48 + k, 1);
            x.dueChanged("not 0 behind the last", 48 + k, 255);
        }
        x.dueChanged("a place twice", 49, 3, 50, 15, 51, 0, 52, 9, 60, 3, 61, 5);
        x.dueChanged("a place twice", 52, 9, 61, 5);
        x.dueChanged("byte 60 above byte 61", 60, 4, 61, 2);
        x.dueChanged("byte 60 above byte 61", 60, 5);
        x.dueChanged("other counts", 60, 3);
        x.dueChanged("other counts", 60, 1);
    }

    private static void oneHint() {
        VerifyingEdgesTest x = new VerifyingEdgesTest(ordinaryKey()).hint(0, 0).search();
        x.due("a hint at place 0", true);
        // All bytes behind none are 0 here, so that only the order of the counts speaks against it.
        x.dueChanged("byte 60 above byte 61", 61, 0);
        x.dueChanged("a place twice", 60, 2, 61, 2);
        x.dueChanged("the other polynomial", 60, 0);
    }

    private static void noHints() {
        VerifyingEdgesTest x = new VerifyingEdgesTest(allBytes(200)).search();
        x.due("no hints", true);
        for (int k = 0; k < 12; k++) {
            x.dueChanged("no hints, but a byte", 48 + k, 1);
        }
        x.dueChanged("no hints, byte 60", 60, 1);
        x.dueChanged("no hints, byte 61", 61, 1);
        x.dueChanged("no hints, byte 61", 61, 2);
    }

    /** A seal that differs in one byte alone and has the same ball: only the byte itself speaks against it. */
    private static void everyByteOfTheSeal() {
        Reference reference = new Reference();
        reference.key(2026L);
        VerifyingEdgesTest x = new VerifyingEdgesTest(reference.publicKey);
        x.message = reference.message;
        for (int at = 0; at < 8; at++) {
            int other = -1;
            for (int with = 0; with < MOST_SIGNATURES && other < 0; with++) {
                reference.sign(with, 30);
                other = otherByteOfSameBall(reference.signature, at);
            }
            Due.due("another byte " + at + " with the same ball is found", other >= 0, true);
            x.signature = reference.signature;
            x.due("the seal", true);
            x.dueChanged("a byte of the seal", at, other);
        }
    }

    private static int otherByteOfSameBall(int[] signature, int at) {
        int[] seal = Arrays.copyOf(signature, 8);
        long[] c = Reference.ballOf(seal);
        for (int b = 0; b < 256; b++) {
            seal[at] = b;
            if (b != signature[at] && Arrays.equals(Reference.ballOf(seal), c)) {
                return b;
            }
        }
        return -1;
    }

    public static void main(String[] args) {
        anyPublicKey();
        sizeOfZ();
        hintsOfOnePolynomial();
        hintsOfBothPolynomials();
        oneHint();
        noHints();
        everyByteOfTheSeal();
        Due.end();
    }
}
