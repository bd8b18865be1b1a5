/** Promises 14 to 17 and what the terms say of HIGH, LOW, HINT and CORRECTED, sentence by sentence. */
public final class RoundingTest {
    private static final int Q = 8380417;
    private static final int STEP = 2046;
    /** The least r whose r - c is q - 1. */
    private static final int TOP = 8379394;
    private static final int MIN = Integer.MIN_VALUE;
    private static final int MAX = Integer.MAX_VALUE;

    private static void dueHigh(int r, int want) {
        Due.due("high(" + r + ")", new ShortVectorSigner().high(r), want);
    }

    private static void dueLow(int r, int want) {
        Due.due("low(" + r + ")", new ShortVectorSigner().low(r), want);
    }

    private static void dueBoth(int r, int high, int low) {
        dueHigh(r, high);
        dueLow(r, low);
    }

    private static void dueHint(int z, int r, int want) {
        Due.due("hint(" + z + ", " + r + ")", new ShortVectorSigner().hint(z, r), want);
    }

    private static void dueCorrected(int h, int r, int want) {
        Due.due("corrected(" + h + ", " + r + ")", new ShortVectorSigner().corrected(h, r), want);
    }

    // ---- promises 14 and 15

    private static void restFromMinus1022To1023() {
        Due.sentence("Terms: let c be r less a multiple of 2046, from -1022 to 1023");
        dueBoth(0, 0, 0);
        dueBoth(1, 0, 1);
        dueBoth(1022, 0, 1022);
        dueBoth(1023, 0, 1023);
        dueBoth(1024, 1, -1022);
        dueBoth(1025, 1, -1021);
        dueBoth(2045, 1, -1);
        dueBoth(2046, 1, 0);
        dueBoth(2047, 1, 1);
        dueBoth(3069, 1, 1023);
        dueBoth(3070, 2, -1022);
        for (int k = 1; k < 4096; k += 63) {
            dueBoth(STEP * k - 1023, k - 1, 1023);
            dueBoth(STEP * k - 1022, k, -1022);
            dueBoth(STEP * k, k, 0);
            dueBoth(STEP * k + 1022, k, 1022);
        }
    }

    private static void wrapsAtTheTop() {
        Due.sentence("Terms: If r - c is q - 1, HIGH(r) is 0 and LOW(r) is c - 1");
        dueBoth(TOP, 0, -1023);
        dueBoth(TOP + 1, 0, -1022);
        dueBoth(Q - 3, 0, -3);
        dueBoth(Q - 2, 0, -2);
        dueBoth(Q - 1, 0, -1);
        Due.sentence("Terms: else HIGH(r) is (r - c) / 2046 (0 .. 4095)");
        dueBoth(TOP - 1, 4095, 1023);
        dueBoth(TOP - 2, 4095, 1022);
        dueBoth(4095 * STEP + 1, 4095, 1);
        dueBoth(4095 * STEP, 4095, 0);
        dueBoth(4095 * STEP - 1022, 4095, -1022);
        dueBoth(4095 * STEP - 1023, 4094, 1023);
    }

    /** Another way to HIGH and LOW than the program's: count up with r. */
    private static void everyNumber() {
        Due.sentence("Terms: For r from 0 to q - 1");
        int high = 0;
        int low = 0;
        int wrong = 0;
        ShortVectorSigner x = new ShortVectorSigner();
        for (int r = 0; r < Q; r++) {
            if (r % 256 == 0) {
                x = new ShortVectorSigner();
            }
            if (x.high(r) != high || x.low(r) != low) {
                wrong++;
            }
            low++;
            if (low == 1024) {
                high++;
                low = high == 4096 ? -1023 : -1022;
                high %= 4096;
            }
        }
        Due.due("numbers with another HIGH or LOW", wrong, 0);
    }

    private static void anyInt() {
        Due.sentence("14, 15: HIGH(r mod q), LOW(r mod q), for any int r");
        dueBoth(Q, 0, 0);
        dueBoth(Q + 1, 0, 1);
        dueBoth(Q + 1023, 0, 1023);
        dueBoth(Q + 1024, 1, -1022);
        dueBoth(2 * Q - 1, 0, -1);
        dueBoth(255 * Q + 2046, 1, 0);
        dueBoth(256 * Q, 0, 0);
        dueBoth(-1, 0, -1);
        dueBoth(-1022, 0, -1022);
        dueBoth(-1023, 0, -1023);
        dueBoth(-1024, 4095, 1023);
        dueBoth(-2046, 4095, 1);
        dueBoth(-2047, 4095, 0);
        dueBoth(1 - Q, 0, 1);
        dueBoth(-Q, 0, 0);
        dueBoth(-Q - 1, 0, -1);
        dueBoth(-256 * Q, 0, 0);
        dueBoth(-256 * Q - 1, 0, -1);
        dueBoth(MAX, 1025, -255);
        dueBoth(MIN, 3071, 255);
        dueBoth(MIN + 1, 3071, 256);
    }

    // ---- promise 16

    private static void hintWhenHighsDiffer() {
        Due.sentence("Terms: The HINT of z and r is 1 when HIGH(r) and HIGH(r + z mod q) differ, else 0");
        dueHint(0, 0, 0);
        dueHint(0, 1023, 0);
        dueHint(0, Q - 1, 0);
        dueHint(1, 1022, 0);
        dueHint(1, 1023, 1);
        dueHint(1, 1024, 0);
        dueHint(-1, 1023, 0);
        dueHint(-1, 1024, 1);
        dueHint(-1, 1025, 0);
        dueHint(2045, 1024, 0);
        dueHint(2046, 1024, 1);
        dueHint(-2045, 3069, 0);
        dueHint(-2046, 3069, 1);
        dueHint(1023, 0, 0);
        dueHint(1024, 0, 1);
        dueHint(500, 523, 0);
        dueHint(500, 524, 1);
        dueHint(4 * STEP, 5000, 1);
    }

    private static void hintOverTheEnd() {
        Due.sentence("Terms: HIGH(r + z mod q), going over q or below 0");
        dueHint(1, Q - 1, 0);
        dueHint(1024, Q - 1, 0);
        dueHint(1025, Q - 1, 1);
        dueHint(-1, 0, 0);
        dueHint(-1023, 0, 0);
        dueHint(-1024, 0, 1);
        dueHint(2046, TOP, 0);
        dueHint(2047, TOP, 1);
        dueHint(-2046, 1023, 0);
        dueHint(-2047, 1023, 1);
        dueHint(1, TOP - 1, 1);
        dueHint(-1, TOP, 1);
        dueHint(-512, 8379400, 1);
        dueHint(Q - 1, 1024, 1);
        dueHint(Q - 1, 1025, 0);
        dueHint(1 - Q, 1023, 1);
        dueHint(1 - Q, 1022, 0);
    }

    /** In each of these a sum that left the ints would come to another HIGH. */
    private static void hintOfAnyInts() {
        Due.sentence("16: The HINT of z and r mod q, for any ints");
        dueHint(Q, 5000, 0);
        dueHint(-Q, 5000, 0);
        dueHint(256 * Q, Q - 1, 0);
        dueHint(255 * Q, Q - 1, 0);
        dueHint(256 * Q, TOP - 1, 0);
        dueHint(-256 * Q, 1 - Q, 0);
        dueHint(256 * Q + 1, 256 * Q + 1022, 0);
        dueHint(256 * Q + 1, 256 * Q + 1023, 1);
        dueHint(-256 * Q - 1, -256 * Q - 1022, 0);
        dueHint(-256 * Q - 1, -256 * Q - 1023, 1);
        dueHint(MAX, 0, 1);
        dueHint(MIN, 0, 1);
        dueHint(0, MAX, 0);
        dueHint(0, MIN, 0);
        dueHint(MAX, MAX, 1);
        dueHint(MIN, MIN, 1);
        // MAX lies 1278 below the end of its HIGH, and MIN 768.
        dueHint(MAX, MIN, 1);
        dueHint(MIN, MAX, 1);
        dueHint(256 * Q + 1278, MAX, 0);
        dueHint(256 * Q + 1279, MAX, 1);
        dueHint(256 * Q + 768, MIN, 0);
        dueHint(256 * Q + 769, MIN, 1);
    }

    // ---- promise 17

    private static void correctedByZero() {
        Due.sentence("Terms: r CORRECTED by a hint 0 is HIGH(r)");
        dueCorrected(0, 0, 0);
        dueCorrected(0, 1023, 0);
        dueCorrected(0, 1024, 1);
        dueCorrected(0, TOP - 1, 4095);
        dueCorrected(0, TOP, 0);
        dueCorrected(0, Q - 1, 0);
    }

    private static void correctedByOne() {
        Due.sentence("Terms: by 1 it is HIGH(r) + 1 if LOW(r) is above 0");
        dueCorrected(1, 1, 1);
        dueCorrected(1, 1023, 1);
        dueCorrected(1, 2047, 2);
        dueCorrected(1, 3069, 2);
        dueCorrected(1, 4094 * STEP + 1, 4095);
        Due.sentence("Terms: and HIGH(r) - 1 else");
        dueCorrected(1, 1024, 0);
        dueCorrected(1, 2045, 0);
        dueCorrected(1, 2046, 0);
        dueCorrected(1, 4092, 1);
        dueCorrected(1, 4095 * STEP, 4094);
        dueCorrected(1, 4095 * STEP - 1, 4094);
    }

    private static void correctedOverTheEnd() {
        Due.sentence("Terms: mod 4096");
        dueCorrected(1, 4095 * STEP + 1, 0);
        dueCorrected(1, TOP - 1, 0);
        dueCorrected(1, 0, 4095);
        dueCorrected(1, TOP, 4095);
        dueCorrected(1, Q - 1, 4095);
    }

    private static void correctedByTheLowestBit() {
        Due.sentence("17: corrected by the lowest bit of h");
        for (int h : new int[] {0, 2, 4, 256, -2, -256, MIN, MAX - 1}) {
            dueCorrected(h, 2047, 1);
            dueCorrected(h, 2045, 1);
        }
        for (int h : new int[] {1, 3, 5, 257, -1, -3, -255, MIN + 1, MAX}) {
            dueCorrected(h, 2047, 2);
            dueCorrected(h, 2045, 0);
        }
    }

    private static void correctedOfAnyInt() {
        Due.sentence("17: r mod q, for any int r");
        dueCorrected(1, -1, 4095);
        dueCorrected(0, -1, 0);
        dueCorrected(1, -1024, 0);
        dueCorrected(0, -1024, 4095);
        dueCorrected(1, Q, 4095);
        dueCorrected(1, Q + 1, 1);
        dueCorrected(1, -Q, 4095);
        dueCorrected(1, 1 - Q, 1);
        dueCorrected(1, 256 * Q + 1024, 0);
        dueCorrected(0, MAX, 1025);
        dueCorrected(1, MAX, 1024);
        dueCorrected(0, MIN, 3071);
        dueCorrected(1, MIN, 3072);
    }

    private static void noStateIsNeeded() {
        Due.sentence("14 to 17: the same with a key, a message and a signature");
        ShortVectorSigner x = Signers.withKey(1L, "61");
        x.sign(7L, 30);
        Due.due("high(-1024)", x.high(-1024), 4095);
        Due.due("low(-1024)", x.low(-1024), 1023);
        Due.due("hint(1, 1023)", x.hint(1, 1023), 1);
        Due.due("corrected(1, 0)", x.corrected(1, 0), 4095);
        Due.due("verify()", x.verify(), true);
        Due.due("signature", Signers.signatureOf(x), Gold.signatureOf(1L, "61", 7L));
    }

    public static void main(String[] args) {
        restFromMinus1022To1023();
        wrapsAtTheTop();
        everyNumber();
        anyInt();
        hintWhenHighsDiffer();
        hintOverTheEnd();
        hintOfAnyInts();
        correctedByZero();
        correctedByOne();
        correctedOverTheEnd();
        correctedByTheLowestBit();
        correctedOfAnyInt();
        noStateIsNeeded();
        Due.end();
    }
}
