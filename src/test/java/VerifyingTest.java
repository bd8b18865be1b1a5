import java.util.Arrays;
import java.util.Random;

/**
 * What the terms say of verifying any bytes, at each limit. There are only 29120 balls, so for any public
 * key, z and hints a message can be searched for whose seal fits: all that verifying asks then holds, but
 * for the limit that the test is about.
 */
public final class VerifyingTest {
    private static final int MOST_MESSAGES = 1000000;
    private static final int[] SOME_SEAL = {1, 2, 3, 4, 5, 6, 7, 8};
    /** For a z with a coefficient 0 .. 31 at its limit: the message that fits. */
    private static final int[] KNOWN_504 = {
        54286, 60677, 19104, 40879, 13709, 1518, 9947, 40326,
        45293, 3916, 21746, 20225, 18936, 88896, 3116, 57656,
        49675, 18796, 7612, 19471, 8510, 17308, 12096, 18952,
        37918, 2148, 17471, 5250, 41156, 52770, 1691, 717
    };
    private static final int[] KNOWN_MINUS_504 = {
        2313, 14192, 3470, 70176, 21085, 23029, 57899, 9195,
        6802, 35973, 42, 11385, 38534, 33130, 9519, 24822,
        9505, 77934, 30329, 12874, 58841, 19781, 8168, 42903,
        5370, 5671, 7518, 29365, 55648, 1087, 25161, 4225
    };
    private static final int[] KNOWN_503 = {
        36862, 6686, 22033, 4542, 4825, 845, 52253, 70486,
        1182, 30223, 28507, 32662, 76486, 43410, 10174, 22197,
        1140, 163407, 4845, 36930, 44535, 9981, 15939, 13289,
        51976, 10326, 21471, 26784, 27134, 22316, 27803, 1033
    };
    private static final int[] KNOWN_MINUS_503 = {
        5500, 37175, 85666, 1064, 37050, 64208, 3159, 16491,
        14916, 43925, 5085, 70127, 11252, 11585, 26735, 12227,
        19712, 15665, 16408, 53824, 15230, 52464, 16158, 42961,
        24358, 6823, 23422, 13555, 10311, 4404, 4369, 10131
    };
    /** A place, a long, and a byte that makes another seal with the same ball: only the byte speaks against it. */
    private static final int[][] OTHER_SEALS = {
        {0, 65, 169}, {1, 50, 242}, {2, 16, 193}, {3, 79, 54}, {4, 595, 42}, {5, 23, 18}, {6, 269, 68}, {7, 37, 186}
    };
    private static final int[] TWELVE = {0, 1, 2, 4, 5, 7, 8, 10, 11, 12, 14, 15};

    private final int[] publicKey;
    private final long[][] z = new long[2][16];
    private final int[][] hints = new int[2][16];
    private int[] message;
    private int[] signature;

    private VerifyingTest(int[] publicKey, int choice) {
        this.publicKey = publicKey;
        Random random = new Random(choice);
        for (int i = 0; i < 32; i++) {
            z[i / 16][i % 16] = random.nextInt(1001) - 500;
        }
    }

    private static VerifyingTest ordinary() {
        return new VerifyingTest(Signers.bytesOf(Gold.publicOf(2L)), 1);
    }

    private static VerifyingTest withPublic(int b) {
        int[] bytes = new int[68];
        Arrays.fill(bytes, b);
        return new VerifyingTest(bytes, 1);
    }

    private VerifyingTest hint(int polynomial, int... places) {
        for (int place : places) {
            hints[polynomial][place] = 1;
        }
        return this;
    }

    private VerifyingTest coefficient(int i, int number) {
        z[i / 16][i % 16] = number;
        return this;
    }

    /**
     * Looks for a message that fits. Where one is known already, the search begins there and is short; if
     * the test has been changed since, it goes on and tells what it found.
     */
    private VerifyingTest fit(int known) {
        long[] c = Reference.ballOf(SOME_SEAL);
        int[] trace = Reference.h(publicKey, 8);
        int[] highs = Reference.correctedHighs(publicKey, z, c, hints);
        for (int n = known; n < known + MOST_MESSAGES; n++) {
            message = Arrays.copyOf(Reference.bytesOf(n), 3);
            int[] mu = Reference.h(Reference.join(trace, message), 16);
            int[] seal = Reference.h(Reference.join(mu, highs), 8);
            if (Arrays.equals(Reference.ballOf(seal), c)) {
                signature = Reference.signatureOf(seal, z, hints);
                if (n != known) {
                    System.out.println("fit(" + known + ") found " + n);
                }
                return this;
            }
        }
        throw new IllegalStateException("no message fits");
    }

    private void due(String what, boolean want) {
        ShortVectorSigner x = Signers.carrying(
                Signers.hexOf(publicKey), Signers.hexOf(signature), Signers.hexOf(message));
        Due.due(what + ": verify()", x.verify(), want);
    }

    /** As due, but with some bytes of the signature changed: i, b, i, b, .. */
    private void dueChanged(String what, int... changes) {
        int[] whole = signature.clone();
        for (int k = 0; k < changes.length; k += 2) {
            signature[changes[k]] = changes[k + 1];
        }
        due(what + " " + Arrays.toString(changes), false);
        signature = whole;
    }

    // ---- any bytes

    private static void anyPublicKey() {
        Due.sentence("VERIFYING the public key .. that lies there, any bytes");
        ordinary().fit(22136).due("a key's public key", true);
        withPublic(0).fit(56337).due("a public key of 0", true);
        Due.sentence("t1 are what the public key's bytes say, 256 * t1 beyond q too");
        withPublic(255).fit(13807).due("a public key of 255", true);
    }

    // ---- the size of z

    private static void sizes(int number, int[] known, boolean want) {
        for (int i = 0; i < 32; i++) {
            ordinary().coefficient(i, number).fit(known[i]).due("coefficient " + i + " of z is " + number, want);
        }
    }

    private static void sizeOfZ() {
        Due.sentence("It fails when the size of z is 504 or more");
        sizes(504, KNOWN_504, false);
        sizes(-504, KNOWN_MINUS_504, false);
        ordinary().coefficient(15, 512).fit(626).due("z with 512", false);
        ordinary().coefficient(16, -511).fit(30415).due("z with -511", false);
        Due.sentence("It fails when the size of z is 504 or more; not when it is 503");
        sizes(503, KNOWN_503, true);
        sizes(-503, KNOWN_MINUS_503, true);
    }

    // ---- the hints

    private static void firstCountAtMostBoth() {
        Due.sentence("byte 60 at most byte 61: they are the same");
        VerifyingTest x = ordinary().hint(0, 0).fit(24007);
        x.due("a hint at place 0 of polynomial 0", true);
        Due.sentence("byte 60 at most byte 61: it is more");
        // All places are 0 here, so that only the order of the counts speaks against it.
        x.dueChanged("one hint", 61, 0);
        VerifyingTest y = ordinary().hint(0, 3, 15).hint(1, 0, 9).fit(77495);
        y.due("hints 3, 15 and 0, 9", true);
        y.dueChanged("four hints", 60, 5);
        y.dueChanged("four hints", 60, 4, 61, 2);
        y.dueChanged("four hints", 60, 255);
        y.dueChanged("other counts", 60, 3);
        y.dueChanged("other counts", 60, 1);
        y.dueChanged("other counts", 60, 0);
        y.dueChanged("other counts", 60, 4);
    }

    private static void bothAtMostTwelve() {
        Due.sentence("byte 61 at most 12: it is 12");
        VerifyingTest first = ordinary().hint(0, TWELVE).fit(85785);
        first.due("twelve hints in polynomial 0", true);
        VerifyingTest second = withPublic(3).hint(1, TWELVE).fit(34576);
        second.due("twelve hints in polynomial 1", true);
        Due.sentence("byte 61 at most 12: it is more");
        // Byte 60 is the count 12 and would be the place 12 as well, byte 61 the count and the place 14.
        ordinary().hint(0, TWELVE).hint(1, 12).fit(42723).due("thirteen hints", false);
        ordinary().hint(0, TWELVE).hint(1, 12, 14).fit(81215).due("fourteen hints", false);
        for (int count : new int[] {13, 14, 16, 128, 255}) {
            first.dueChanged("too many", 61, count);
            first.dueChanged("too many", 60, count, 61, count);
            first.dueChanged("too many", 60, count);
            second.dueChanged("too many", 61, count);
            second.dueChanged("too many", 60, count, 61, count);
        }
        Due.sentence("byte 61 at most 12: it is less than there are places");
        first.dueChanged("too few", 61, 11);
        first.dueChanged("too few", 60, 11, 61, 11);
        second.dueChanged("too few", 61, 11);
        second.dueChanged("too few", 61, 0);
    }

    private static void placesBelow16() {
        Due.sentence("places below 16: 15 and 0");
        VerifyingTest x = ordinary().hint(0, 15).hint(1, 0, 15).fit(24892);
        x.due("hints 15 and 0, 15", true);
        Due.sentence("places below 16: 16 and more");
        for (int k = 0; k < 3; k++) {
            for (int more = 16; more < 256; more += 16) {
                if (x.signature[48 + k] + more < 256) {
                    x.dueChanged("a place above 15", 48 + k, x.signature[48 + k] + more);
                }
            }
        }
        VerifyingTest y = ordinary().hint(1, 0).fit(3987);
        y.due("a hint at place 0 of polynomial 1", true);
        y.dueChanged("written as place 16 of polynomial 0", 48, 16, 60, 1);
        VerifyingTest z = ordinary().hint(0, 15).fit(50668);
        z.due("a hint at place 15 of polynomial 0", true);
        z.dueChanged("written as place 255 of polynomial 1", 48, 255, 60, 0);
    }

    private static void placesGrowing() {
        Due.sentence("places growing in each polynomial: not from one polynomial to the next");
        ordinary().hint(0, 9).hint(1, 9).fit(156).due("the same place in both", true);
        ordinary().hint(0, 14, 15).hint(1, 0, 1).fit(11425).due("hints 14, 15 and 0, 1", true);
        Due.sentence("places growing in each polynomial: falling");
        VerifyingTest x = ordinary().hint(0, 3, 4).hint(1, 8, 9).fit(19900);
        x.due("hints 3, 4 and 8, 9", true);
        x.dueChanged("falling in polynomial 0", 48, 4, 49, 3);
        x.dueChanged("falling in polynomial 1", 50, 9, 51, 8);
        Due.sentence("places growing in each polynomial: the same twice");
        x.dueChanged("twice in polynomial 0", 49, 3, 50, 4, 51, 8, 52, 9, 60, 3, 61, 5);
        x.dueChanged("twice in polynomial 0", 50, 4, 51, 8, 52, 9, 60, 3, 61, 5);
        x.dueChanged("twice in polynomial 1", 51, 8, 52, 9, 61, 5);
        x.dueChanged("twice in polynomial 1", 52, 9, 61, 5);
        VerifyingTest zero = ordinary().hint(0, 0).fit(24007);
        zero.dueChanged("0 twice in polynomial 0", 60, 2, 61, 2);
        VerifyingTest second = ordinary().hint(1, 0).fit(3987);
        second.dueChanged("0 twice in polynomial 1", 61, 2);
    }

    private static void zeroBehind() {
        Due.sentence("0 behind the last one: there are four");
        VerifyingTest x = ordinary().hint(0, 3, 15).hint(1, 0, 9).fit(77495);
        for (int k = 4; k < 12; k++) {
            for (int b : new int[] {1, 15, 16, 128, 255}) {
                x.dueChanged("not 0", 48 + k, b);
            }
        }
        Due.sentence("0 behind the last one: there are none");
        VerifyingTest none = withPublic(200).fit(68786);
        none.due("no hints", true);
        for (int k = 0; k < 12; k++) {
            none.dueChanged("not 0", 48 + k, 1);
            none.dueChanged("not 0", 48 + k, 255);
        }
        none.dueChanged("counts", 60, 1);
        none.dueChanged("counts", 61, 1);
        none.dueChanged("counts", 60, 1, 61, 1);
        none.dueChanged("counts", 61, 2);
        Due.sentence("0 behind the last one: there are eleven");
        VerifyingTest eleven = ordinary().hint(0, 0, 1, 2, 3, 4, 5).hint(1, 11, 12, 13, 14, 15).fit(10661);
        eleven.due("eleven hints", true);
        eleven.dueChanged("not 0", 59, 1);
        eleven.dueChanged("not 0", 59, 15);
    }

    // ---- each corrected by its hint

    /** A z whose coefficient at some place has this HIGH (-1: any) and a LOW from least to greatest; its hint is 1. */
    private static VerifyingTest corrected(int high, int least, int greatest, int known) {
        long[] c = Reference.ballOf(SOME_SEAL);
        for (int choice = 0; choice < MOST_MESSAGES; choice++) {
            VerifyingTest x = new VerifyingTest(Signers.bytesOf(Gold.publicOf(2L)), choice);
            long[] w = Reference.flat(Reference.uncorrected(x.publicKey, x.z, c));
            for (int i = 0; i < 32; i++) {
                int low = Reference.lowOf(w[i]);
                if (low >= least && low <= greatest && (high < 0 || Reference.highOf(w[i]) == high)) {
                    return x.hint(i / 16, i % 16).fit(known);
                }
            }
        }
        throw new IllegalStateException("no z is there");
    }

    private static void correctedByHints() {
        Due.sentence("each corrected by its hint: LOW(r) is above 0");
        corrected(-1, 1, 1, 38015).due("LOW is 1", true);
        corrected(-1, 1023, 1023, 23208).due("LOW is 1023", true);
        Due.sentence("each corrected by its hint: LOW(r) is 0 or less");
        corrected(-1, 0, 0, 14992).due("LOW is 0", true);
        corrected(-1, -1, -1, 24636).due("LOW is -1", true);
        corrected(-1, -1022, -1022, 44552).due("LOW is -1022", true);
        Due.sentence("each corrected by its hint: mod 4096");
        corrected(4095, 1, 1023, 4316).due("from 4095 to 0", true);
        corrected(0, -1023, 0, 16050).due("from 0 to 4095", true);
    }

    // ---- the seal

    private static void everyByteOfTheSeal() {
        Due.sentence("it holds when H(mu, these, 8) is seal");
        for (int[] other : OTHER_SEALS) {
            Reference reference = new Reference();
            reference.key(2L);
            reference.sign(other[1], 30);
            VerifyingTest x = new VerifyingTest(reference.publicKey, 1);
            x.message = reference.message;
            x.signature = reference.signature;
            x.due("the seal", true);
            int[] seal = Arrays.copyOf(reference.signature, 8);
            String ball = Arrays.toString(Reference.ballOf(seal));
            Due.due("byte " + other[0] + " is another", seal[other[0]] != other[2], true);
            seal[other[0]] = other[2];
            Due.due("and the ball is the same", Arrays.toString(Reference.ballOf(seal)), ball);
            x.dueChanged("a byte of the seal", other[0], other[2]);
        }
    }

    public static void main(String[] args) {
        anyPublicKey();
        sizeOfZ();
        firstCountAtMostBoth();
        bothAtMostTwelve();
        placesBelow16();
        placesGrowing();
        zeroBehind();
        correctedByHints();
        everyByteOfTheSeal();
        Due.end();
    }
}
