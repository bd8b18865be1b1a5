/**
 * What the terms say of signing, at each limit: tries that lie just within and just beyond it, nothing
 * else deciding them. The longs were searched for; each test makes sure that its boundary case is there.
 */
public final class SigningTest {
    /** For coefficient 0 .. 31 of z, with the key of seed 1: with this long, try 1 has it there and no other fault. */
    private static final int[] Z_504 = {
        1614, 1216, 264, 2789, 1765, 1789, 2766, 3016, 1585, 6804, 2772, 175, 1437, 268, 1432, 445,
        2011, 1200, 267, 1321, 9, 538, 667, 5472, 819, 1981, 100, 1080, 5861, 2149, 577, 3810
    };
    private static final int[] Z_MINUS_504 = {
        1382, 331, 2603, 410, 1752, 1509, 1114, 1163, 1463, 7871, 4051, 2038, 2557, 2188, 1354, 1232,
        871, 4353, 2462, 395, 261, 2527, 3114, 428, 4137, 2827, 10, 5, 1460, 906, 2292, 786
    };
    private static final int[] Z_503 = {
        2279, 983, 539, 300, 5611, 1950, 8027, 1141, 869, 5630, 1009, 10278, 1912, 5430, 1892, 94,
        9479, 1260, 1012, 2017, 2147, 378, 2002, 2098, 827, 3656, 1090, 334, 977, 1860, 345, 3855
    };
    private static final int[] Z_MINUS_503 = {
        1048, 4768, 769, 4835, 8513, 1492, 1669, 1268, 2095, 2809, 114, 690, 360, 5642, 555, 2060,
        4645, 1860, 1948, 2816, 2024, 4363, 333, 1762, 729, 633, 1341, 2750, 2602, 337, 367, 974
    };
    /** The same for the LOW of coefficient 0 .. 31 of u. */
    private static final int[] LOW_1015 = {
        459, 947, 1348, 7741, 3800, 7476, 4153, 5219, 161, 2762, 978, 2297, 4962, 1592, 3882, 12278,
        5328, 285, 5339, 424, 1425, 22271, 809, 6466, 1255, 1708, 5150, 1724, 3348, 4552, 2873, 1878
    };
    private static final int[] LOW_MINUS_1015 = {
        4840, 3737, 522, 9057, 6835, 935, 162, 17162, 191, 512, 2554, 2484, 232, 2252, 2199, 2820,
        4208, 438, 2519, 5369, 3160, 4090, 3207, 1793, 5531, 3243, 1264, 3381, 959, 3885, 853, 2525
    };
    private static final int[] LOW_1014 = {
        239, 9882, 1741, 2164, 1670, 7322, 501, 2540, 4511, 11135, 115, 1153, 3908, 2238, 13435, 18882,
        2191, 1766, 3493, 393, 1012, 2290, 2145, 845, 442, 2648, 11177, 1965, 7440, 8314, 4226, 3591
    };
    private static final int[] LOW_MINUS_1014 = {
        13445, 152, 7072, 13460, 10158, 18035, 4443, 4229, 1427, 1243, 6768, 12009, 17352, 4127, 12641, 2463,
        368, 1108, 2942, 3521, 5379, 345, 6249, 8382, 1268, 8308, 16375, 8925, 560, 7294, 3439, 131
    };
    /** For place 0 .. 31, with the key of seed 1: with this long, try 1 holds and has the only hint there. */
    private static final int[] ONE_HINT = {
        167, 89, 1081, 202, 47, 676, 316, 481, 186, 13, 11, 52, 841, 46, 1, 185,
        88, 2, 433, 771, 23, 40, 342, 292, 421, 230, 84, 1187, 494, 116, 82, 537
    };
    private static final int Q = 8380417;

    private static Reference.Try lookAt(long seed, long with) {
        Reference reference = new Reference();
        reference.key(seed);
        return reference.look(with, 1);
    }

    private static int faultsOf(Reference.Try t) {
        int faults = t.hintCount > 12 ? 1 : 0;
        for (int i = 0; i < 32; i++) {
            faults += Math.abs(zOf(t, i)) >= 504 ? 1 : 0;
            faults += Math.abs(t.lows[i]) >= 1015 ? 1 : 0;
        }
        return faults;
    }

    private static int zOf(Reference.Try t, int i) {
        return Reference.centered(t.z[i / 16][i % 16]);
    }

    private static void dueTry(String what, long seed, long with, boolean fails) {
        String call = what + ": key(" + seed + "), sign(" + with + ", 1)";
        Due.due(call + ": faults", faultsOf(lookAt(seed, with)), fails ? 1 : 0);
        ShortVectorSigner x = Signers.withKey(seed);
        Due.due(call, x.sign(with, 1), fails ? -2 : 1);
        Due.due(call + ", verify()", x.verify(), !fails);
    }

    private static void dueSigned(long seed, long with) {
        ShortVectorSigner x = Signers.withKey(seed);
        String call = "key(" + seed + "), sign(" + with + ", 30)";
        Due.due(call, x.sign(with, 30), Gold.tryOf(seed, "", with));
        Due.due(call + ", signature", Signers.signatureOf(x), Gold.signatureOf(seed, "", with));
        Due.due(call + ", verify()", x.verify(), true);
    }

    // ---- when a try fails

    private static void sizesOfZ(int[] longs, int z, boolean fails) {
        for (int i = 0; i < 32; i++) {
            Due.due("coefficient " + i + " of z", zOf(lookAt(1L, longs[i]), i), z);
            dueTry("coefficient " + i + " of z is " + z, 1L, longs[i], fails);
        }
    }

    private static void sizeOfZ() {
        Due.sentence("The try FAILS when the size of z is 504 or more");
        sizesOfZ(Z_504, 504, true);
        sizesOfZ(Z_MINUS_504, -504, true);
        Due.sentence("The try FAILS when the size of z is 504 or more; not when it is 503");
        sizesOfZ(Z_503, 503, false);
        sizesOfZ(Z_MINUS_503, -503, false);
    }

    private static void lowsOfU(int[] longs, int low, boolean fails) {
        for (int i = 0; i < 32; i++) {
            Due.due("LOW of coefficient " + i + " of u", lookAt(1L, longs[i]).lows[i], low);
            dueTry("LOW of coefficient " + i + " of u is " + low, 1L, longs[i], fails);
        }
    }

    private static void lowOfU() {
        Due.sentence("The try FAILS when a LOW of a coefficient of u is 1015 or more");
        lowsOfU(LOW_1015, 1015, true);
        Due.sentence("The try FAILS when a LOW of a coefficient of u is 1015 or more; not when it is 1014");
        lowsOfU(LOW_1014, 1014, false);
        Due.sentence("The try FAILS when a LOW of a coefficient of u is -1015 or less");
        lowsOfU(LOW_MINUS_1015, -1015, true);
        Due.sentence("The try FAILS when a LOW of a coefficient of u is -1015 or less; not when it is -1014");
        lowsOfU(LOW_MINUS_1014, -1014, false);
        Due.sentence("LOWs of 1014 and -1014 in one try that holds");
        Due.due("greatest LOW", lookAt(1L, 24236L).greatestLow, 1014);
        Due.due("least LOW", lookAt(1L, 24236L).leastLow, -1014);
        dueSigned(1L, 24236L);
    }

    private static boolean hasU(Reference.Try t, int u) {
        for (long x : Reference.flat(t.u)) {
            if (x == u) {
                return true;
            }
        }
        return false;
    }

    /** Just below q a LOW is one less than the rest: q - 1015 has the rest -1014. */
    private static void lowOfUBelowQ() {
        Due.sentence("a LOW of u of -1015 or less, where r - c is q - 1");
        Due.due("u has q - 1015", hasU(lookAt(1L, 66422L), Q - 1015), true);
        dueTry("u = q - 1015", 1L, 66422L, true);
        dueSigned(1L, 66422L);
        Due.due("u has q - 1014", hasU(lookAt(1L, 196001L), Q - 1014), true);
        dueTry("u = q - 1014", 1L, 196001L, false);
        dueSigned(1L, 196001L);
    }

    /** So many hints are rare. */
    private static void numberOfHints(long seed, long with, int hints) {
        Due.due("hints of key(" + seed + "), sign(" + with + ", 1)", lookAt(seed, with).hintCount, hints);
        dueTry(hints + " hints", seed, with, hints > 12);
        dueSigned(seed, with);
    }

    private static void numbersOfHints() {
        Due.sentence("The try FAILS when more than 12 of the 32 hints are 1");
        numberOfHints(186690L, 2063678L, 13);
        numberOfHints(102896L, 7876747L, 13);
        numberOfHints(168737L, 361835L, 14);
        Due.sentence("The try FAILS when more than 12 of the 32 hints are 1; not when 12 are");
        numberOfHints(102896L, 39082L, 12);
        numberOfHints(186690L, 2563581L, 12);
        Due.sentence("none of the 32 hints is 1");
        numberOfHints(1L, 6L, 0);
    }

    // ---- the hints of -v and u + v, over the end of q

    private static boolean hasHint(Reference.Try t, int highBefore, int highOfU) {
        for (int i = 0; i < 32; i++) {
            long u = t.u[i / 16][i % 16];
            long sum = Reference.mod(u + t.v[i / 16][i % 16]);
            if (t.hints[i / 16][i % 16] == 1 && Reference.highOf(sum) == highBefore
                    && Reference.highOf(u) == highOfU) {
                return true;
            }
        }
        return false;
    }

    private static boolean wrapsWithoutHint(Reference.Try t) {
        for (int i = 0; i < 32; i++) {
            long u = t.u[i / 16][i % 16];
            long v = Reference.centered(t.v[i / 16][i % 16]);
            if (t.hints[i / 16][i % 16] == 0 && (u + v < 0 || u + v >= Q)) {
                return true;
            }
        }
        return false;
    }

    private static void hintsOverTheEnd() {
        Due.sentence("the hints of -v and u + v, from HIGH 4095 to HIGH 0");
        Due.due("there is one", hasHint(lookAt(1L, 6212L), 4095, 0), true);
        dueSigned(1L, 6212L);
        Due.sentence("the hints of -v and u + v, from HIGH 0 to HIGH 4095");
        Due.due("there is one", hasHint(lookAt(1L, 10460L), 0, 4095), true);
        dueSigned(1L, 10460L);
        Due.sentence("the hints of -v and u + v, when u + v goes over q or below 0 and HIGH stays 0");
        Due.due("there is none at such a place", wrapsWithoutHint(lookAt(1L, 5406L)), true);
        dueSigned(1L, 5406L);
        Due.due("there is none at such a place", wrapsWithoutHint(lookAt(1L, 11241L)), true);
        dueSigned(1L, 11241L);
        Due.sentence("the HIGH of the 32 coefficients of w, 0 at the top");
        dueSigned(1L, 653L);
    }

    // ---- the signature's bytes

    private static ShortVectorSigner signedOver(int b, long seed, long with) {
        ShortVectorSigner x = Signers.withKey(seed);
        for (int i = 0; i < 62; i++) {
            x.putSignature(i, b);
        }
        x.sign(with, 30);
        return x;
    }

    private static void dueHints(long seed, long with, String places, int first, int both) {
        String hints = places + Signers.zeros(12 - places.length() / 2) + Signers.hexOf(first, both);
        for (int b : new int[] {0, 255}) {
            ShortVectorSigner x = signedOver(b, seed, with);
            String signature = Signers.signatureOf(x);
            Due.due("key(" + seed + "), sign(" + with + ", 30) over " + b, signature, Gold.signatureOf(seed, "", with));
            Due.due("its hints", signature.substring(96), hints);
            Due.due("its verify()", x.verify(), true);
        }
    }

    private static void bytesOfHints() {
        Due.sentence("the places of the hints that are 1: none; the bytes between are 0");
        dueHints(1L, 6L, "", 0, 0);
        Due.sentence("those of polynomial 0 growing, none of polynomial 1");
        dueHints(1L, 4L, "0b0e", 2, 2);
        Due.sentence("then those of polynomial 1, none of polynomial 0");
        dueHints(1L, 45L, "050f", 0, 2);
        Due.sentence("the same place in both polynomials");
        dueHints(1L, 97L, "0909", 1, 2);
        Due.sentence("the places (0 .. 15), 0 and 15 of both polynomials");
        dueHints(1L, 408620L, "000f000f", 2, 4);
        Due.sentence("twelve places, so that no bytes are between");
        dueHints(102896L, 39082L, "06090e0f02040708090b0c0e", 4, 12);
        dueHints(186690L, 2563581L, "00020407090b0c0004060b0c", 7, 12);
    }

    private static void everyPlaceOfAHint() {
        Due.sentence("byte 60 how many of polynomial 0 there are, byte 61 how many of both");
        for (int place = 0; place < 32; place++) {
            ShortVectorSigner x = Signers.withKey(1L);
            String call = "key(1), sign(" + ONE_HINT[place] + ", 1), the hint at " + place;
            Due.due(call, x.sign(ONE_HINT[place], 1), 1);
            Due.due(call + ": byte 48", x.signatureByte(48), place % 16);
            Due.due(call + ": byte 60", x.signatureByte(60), place < 16 ? 1 : 0);
            Due.due(call + ": byte 61", x.signatureByte(61), 1);
            Due.due(call + ": verify()", x.verify(), true);
            x.putSignature(60, place < 16 ? 0 : 1);
            Due.due(call + ": verify() with it in the other polynomial", x.verify(), false);
            x.putSignature(48, 0);
            x.putSignature(60, 0);
            x.putSignature(61, 0);
            Due.due(call + ": verify() without it", x.verify(), false);
        }
    }

    private static void tenBitsOfZ() {
        Due.sentence("the numbers 512 - z packed with ten bits, from 9 (z is 503) to 1015 (z is -503)");
        for (int i = 0; i < 32; i++) {
            Due.due("number " + i, numberOfZ(Z_503[i], i), 9);
            Due.due("number " + i, numberOfZ(Z_MINUS_503[i], i), 1015);
        }
    }

    private static int numberOfZ(long with, int place) {
        ShortVectorSigner x = signedOver(255, 1L, with);
        int number = 0;
        for (int k = 0; k < 10; k++) {
            int bit = 10 * place + k;
            number += (x.signatureByte(8 + bit / 8) >> bit % 8 & 1) << k;
        }
        return number;
    }

    public static void main(String[] args) {
        sizeOfZ();
        lowOfU();
        lowOfUBelowQ();
        numbersOfHints();
        hintsOverTheEnd();
        bytesOfHints();
        everyPlaceOfAHint();
        tenBitsOfZ();
        Due.end();
    }
}
