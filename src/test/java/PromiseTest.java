/** Each promise of the document: ordinary inputs, its edges, and wrong inputs. */
public final class PromiseTest {
    private static final int Q = 8380417;
    private static final int[] OUTSIDE_BYTES = {-1, 256, 257, 1000, -256, Integer.MIN_VALUE, Integer.MAX_VALUE};
    private static final String HASH_OF_NOTHING =
            "46b9dd2b0ba88d13233b3feb743eeb243fcd52ea62b81b82b50c27646ed5762fd75dc4ddd8c0f200cb05019d67b592f6fc"
            + "821c49479ab48640292eacb3b7c4be141e96616fb13957692cc7edd0b45ae3dc07223c8e92937bef84bc0eab862853349e"
            + "c75546f58fb7c2775c38462c5010d846c185c15111e595522a6bcd16cf86f3d122109e3b1fdd";
    private static final String HASH_OF_1_255 =
            "94f2bb78e3c54f08d14ddd98ebded3757a529fef20b6bbac5b603fc9e3b1d92d408671a13c91a97229e6164fa277fe5021"
            + "66ab62dc332753f4a631a56cfe42e24c8cca9c185ef5befb51653c9c96d5fc0845d5076f645ce83472d8be7755dc7f6a1d"
            + "c9a6d208770b7cfa1ac5287e6191aa11105e5968d630d518f57b415b76cab5830213055699a8";
    private static final String HASH_OF_24_TIMES_255 =
            "16d4d4313a2a9940c25a08e5ee43b13e7c2b3ce9c8d20decccd3a4474477140284fb940e18ddd2843bcadd878c524dc2b5"
            + "20be30004bff5bf35ba064b17581ea2b2d0fb3e0f4c406eb7aad4db84da1d9d2823212458b26ed4dc307b4d8e0ae665ce2"
            + "dfef2f2b1c81cbfee86fb5b1af2feb2e8fd235c64e7be781cb7d59acb63201d621966b3cf8a3";

    private static int[] outside(int count) {
        return new int[] {-1, count, count + 1, -count, Integer.MIN_VALUE, Integer.MAX_VALUE};
    }

    private static ShortVectorSigner withKey(long seed) {
        ShortVectorSigner x = new ShortVectorSigner();
        x.key(seed);
        return x;
    }

    private static void dueHash(ShortVectorSigner x, String hex) {
        for (int i = 0; i < 136; i++) {
            Due.due("hash(" + i + ")", x.hash(i), Integer.parseInt(hex.substring(2 * i, 2 * i + 2), 16));
        }
    }

    private static void duePublic(ShortVectorSigner x, int[] want) {
        for (int i = 0; i < 68; i++) {
            Due.due("publicByte(" + i + ")", x.publicByte(i), want[i]);
        }
    }

    private static void dueSignature(ShortVectorSigner x, int[] want) {
        for (int i = 0; i < 62; i++) {
            Due.due("signatureByte(" + i + ")", x.signatureByte(i), want[i]);
        }
    }

    private static void dueSecrets(ShortVectorSigner x, Reference reference) {
        for (int i = 0; i < 96; i++) {
            Due.due("secret(" + i / 16 + ", " + i % 16 + ")", x.secret(i / 16, i % 16), reference.secret(i / 16, i % 16));
        }
    }

    private static void newObject() {
        ShortVectorSigner x = new ShortVectorSigner();
        duePublic(x, new int[68]);
        dueSignature(x, new int[62]);
        dueHash(x, HASH_OF_NOTHING);
        Due.due("new: sign(0, 30)", x.sign(0L, 30), -1);
        Due.due("new: verify()", x.verify(), false);
        for (int i = 0; i < 96; i++) {
            Due.due("new: secret(" + i / 16 + ", " + i % 16 + ")", x.secret(i / 16, i % 16), 0);
        }
        withKey(3L).say(9);
        duePublic(new ShortVectorSigner(), new int[68]);
        Due.due("NONE", ShortVectorSigner.NONE, -1);
        Due.due("EXHAUSTED", ShortVectorSigner.EXHAUSTED, -2);
    }

    private static void key() {
        long[] seeds = {0L, 1L, -1L, 255L, 256L, 1L << 56, Long.MIN_VALUE, Long.MAX_VALUE, 0x0123456789ABCDEFL};
        ShortVectorSigner x = new ShortVectorSigner();
        Reference reference = new Reference();
        for (long seed : seeds) {
            ShortVectorSigner fresh = withKey(seed);
            reference.key(seed);
            duePublic(fresh, reference.publicKey);
            dueSecrets(fresh, reference);
            x = withKey(seed ^ 77);
            x.putPublic(5, 1);
            x.key(seed);
            duePublic(x, reference.publicKey);
            dueSecrets(x, reference);
        }
    }

    private static void keyLeavesMessageAndSignature() {
        ShortVectorSigner x = withKey(1L);
        x.say(1);
        x.say(255);
        x.sign(4L, 30);
        int[] before = new int[62];
        for (int i = 0; i < 62; i++) {
            before[i] = x.signatureByte(i);
        }
        x.key(2L);
        dueSignature(x, before);
        dueHash(x, HASH_OF_1_255);
        x.key(1L);
        Due.due("key: verify() with the first key again", x.verify(), true);
    }

    private static void say() {
        ShortVectorSigner x = new ShortVectorSigner();
        for (int n = 0; n < 24; n++) {
            for (int b : OUTSIDE_BYTES) {
                Due.due("say(" + b + ")", x.say(b), false);
            }
            Due.due("say(255)", x.say(255), true);
        }
        Due.due("say(0) with 24", x.say(0), false);
        Due.due("say(255) with 24", x.say(255), false);
        Due.due("say(-1) with 24", x.say(-1), false);
        dueHash(x, HASH_OF_24_TIMES_255);
        ShortVectorSigner y = new ShortVectorSigner();
        Due.due("say(0)", y.say(0), true);
        Due.due("say(0): hash(0) is not that of nothing", y.hash(0) == 0x46 && y.hash(1) == 0xb9, false);
    }

    private static void hush() {
        ShortVectorSigner x = withKey(8L);
        x.hush();
        for (int round = 0; round < 2; round++) {
            for (int n = 0; n < 24; n++) {
                Due.due("say(7) after hush", x.say(7), true);
            }
            Due.due("say(7) with 24 after hush", x.say(7), false);
            x.hush();
        }
        dueHash(x, HASH_OF_NOTHING);
        x.say(1);
        x.say(255);
        dueHash(x, HASH_OF_1_255);
        x.sign(1L, 30);
        x.hush();
        Due.due("hush: verify()", x.verify(), false);
        x.say(1);
        x.say(255);
        Due.due("hush: verify() with the message again", x.verify(), true);
    }

    private static void sign() {
        ShortVectorSigner x = withKey(123456789L);
        x.say(104);
        x.say(105);
        Reference reference = new Reference();
        reference.key(123456789L);
        reference.say(104);
        reference.say(105);
        for (int tries : new int[] {0, 31, -1, 32, 255, Integer.MIN_VALUE, Integer.MAX_VALUE}) {
            Due.due("sign(1, " + tries + ")", x.sign(1L, tries), -1);
        }
        dueSignature(x, new int[62]);
        for (int tries = 1; tries <= 10; tries++) {
            Due.due("sign(1, " + tries + ")", x.sign(1L, tries), -2);
        }
        dueSignature(x, new int[62]);
        reference.sign(1L, 30);
        for (int tries : new int[] {11, 12, 30}) {
            Due.due("sign(1, " + tries + ")", x.sign(1L, tries), 11);
        }
        dueSignature(x, reference.signature);
        Due.due("sign(1, 10) after sign(1, 30)", x.sign(1L, 10), -2);
        Due.due("sign(1, 0) after sign(1, 30)", x.sign(1L, 0), -1);
        dueSignature(x, reference.signature);
    }

    private static void signKeepsToTheKey() {
        ShortVectorSigner x = withKey(-1L);
        Due.due("sign(6, 30)", x.sign(6L, 30), 1);
        Reference reference = new Reference();
        reference.key(-1L);
        reference.sign(6L, 30);
        for (int i = 0; i < 68; i++) {
            x.putPublic(i, 255 - x.publicByte(i));
        }
        Due.due("sign(6, 30) with another public key there", x.sign(6L, 30), 1);
        dueSignature(x, reference.signature);
        Due.due("its publicByte(0)", x.publicByte(0), 255 - reference.publicByte(0));
        Due.due("its verify()", x.verify(), false);
        x.key(-1L);
        Due.due("its verify() with the key's own", x.verify(), true);
    }

    private static void signDependsOnAllOfTheLong() {
        Reference reference = new Reference();
        reference.key(5L);
        ShortVectorSigner x = withKey(5L);
        for (int bit = -1; bit < 64; bit += 5) {
            long with = bit < 0 ? 0L : 1L << bit;
            Due.due("sign(2^" + bit + ", 30)", x.sign(with, 30), reference.sign(with, 30));
            Due.due("signatureByte(0)", x.signatureByte(0), reference.signatureByte(0));
            Due.due("verify() after sign(2^" + bit + ", 30)", x.verify(), true);
        }
    }

    private static ShortVectorSigner signed() {
        ShortVectorSigner x = withKey(77L);
        x.say(3);
        x.sign(9L, 30);
        return x;
    }

    private static void verify() {
        ShortVectorSigner x = signed();
        ShortVectorSigner other = new ShortVectorSigner();
        for (int i = 0; i < 68; i++) {
            other.putPublic(i, x.publicByte(i));
        }
        for (int i = 0; i < 62; i++) {
            other.putSignature(i, x.signatureByte(i));
        }
        Due.due("verify() without the message", other.verify(), false);
        other.say(3);
        Due.due("verify() without a key", other.verify(), true);
        other.say(0);
        Due.due("verify() with a byte more", other.verify(), false);
    }

    private static void verifyChangedBytes() {
        ShortVectorSigner x = signed();
        for (int i = 0; i < 62; i++) {
            int was = x.signatureByte(i);
            x.putSignature(i, was ^ 1 << i % 8);
            Due.due("verify() with signature byte " + i + " changed", x.verify(), false);
            x.putSignature(i, was);
        }
        Due.due("verify() with the signature as it was", x.verify(), true);
        x = signed();
        for (int i = 0; i < 68; i++) {
            int was = x.publicByte(i);
            x.putPublic(i, was ^ 1 << i % 8);
            Due.due("verify() with public byte " + i + " changed", x.verify(), false);
            x.putPublic(i, was);
        }
        Due.due("verify() with the public key as it was", x.verify(), true);
    }

    private static void bytesThatLieThere() {
        ShortVectorSigner x = new ShortVectorSigner();
        int[] publicKey = new int[68];
        int[] signature = new int[62];
        for (int i = 0; i < 68; i++) {
            publicKey[i] = i % 2 == 0 ? 255 - i : i;
            Due.due("putPublic(" + i + ", " + publicKey[i] + ")", x.putPublic(i, publicKey[i]), true);
        }
        for (int i = 0; i < 62; i++) {
            signature[i] = i % 2 == 0 ? i : 255 - i;
            Due.due("putSignature(" + i + ", " + signature[i] + ")", x.putSignature(i, signature[i]), true);
        }
        putWrongPublic(x);
        putWrongSignature(x);
        duePublic(x, publicKey);
        dueSignature(x, signature);
        Due.due("sign(1, 30) with only a public key put", x.sign(1L, 30), -1);
        x.putPublic(67, 0);
        x.putPublic(0, 255);
        x.putSignature(61, 0);
        x.putSignature(0, 255);
        Due.due("publicByte(67)", x.publicByte(67), 0);
        Due.due("publicByte(0)", x.publicByte(0), 255);
        Due.due("signatureByte(61)", x.signatureByte(61), 0);
        Due.due("signatureByte(0)", x.signatureByte(0), 255);
    }

    private static void putWrongPublic(ShortVectorSigner x) {
        for (int i : outside(68)) {
            Due.due("publicByte(" + i + ")", x.publicByte(i), -1);
            Due.due("putPublic(" + i + ", 0)", x.putPublic(i, 0), false);
            Due.due("putPublic(" + i + ", 256)", x.putPublic(i, 256), false);
        }
        for (int b : OUTSIDE_BYTES) {
            Due.due("putPublic(0, " + b + ")", x.putPublic(0, b), false);
            Due.due("putPublic(67, " + b + ")", x.putPublic(67, b), false);
        }
    }

    private static void putWrongSignature(ShortVectorSigner x) {
        for (int i : outside(62)) {
            Due.due("signatureByte(" + i + ")", x.signatureByte(i), -1);
            Due.due("putSignature(" + i + ", 0)", x.putSignature(i, 0), false);
            Due.due("putSignature(" + i + ", 256)", x.putSignature(i, 256), false);
        }
        for (int b : OUTSIDE_BYTES) {
            Due.due("putSignature(0, " + b + ")", x.putSignature(0, b), false);
            Due.due("putSignature(61, " + b + ")", x.putSignature(61, b), false);
        }
    }

    private static void secret() {
        ShortVectorSigner x = withKey(1L);
        Reference reference = new Reference();
        reference.key(1L);
        dueSecrets(x, reference);
        Due.due("secret(4, 3)", x.secret(4, 3), 53);
        Due.due("secret(5, 9)", x.secret(5, 9), 63);
        for (int which : outside(6)) {
            Due.due("secret(" + which + ", 0)", x.secret(which, 0), 0);
        }
        for (int i : outside(16)) {
            for (int which = -1; which < 7; which++) {
                Due.due("secret(" + which + ", " + i + ")", x.secret(which, i), 0);
            }
        }
        // secret(which, i) must not wander into what lies beside: these are not 0 themselves.
        Due.due("secret(1, 5)", x.secret(1, 5), 1);
        Due.due("secret(0, 21)", x.secret(0, 21), 0);
        Due.due("secret(1, -16)", x.secret(1, -16), 0);
        x.putPublic(9, x.publicByte(9) ^ 255);
        dueSecrets(x, reference);
    }

    /** Lower parts reach from -127 to 128, and both ends must be told. */
    private static void secretEnds() {
        boolean least = false;
        boolean greatest = false;
        for (long seed = 0; seed < 60 && !(least && greatest); seed++) {
            ShortVectorSigner x = withKey(seed);
            Reference reference = new Reference();
            reference.key(seed);
            dueSecrets(x, reference);
            for (int i = 64; i < 96; i++) {
                least |= x.secret(i / 16, i % 16) == -127;
                greatest |= x.secret(i / 16, i % 16) == 128;
            }
        }
        Due.due("a lower part -127 is found", least, true);
        Due.due("a lower part 128 is found", greatest, true);
    }

    private static void hash() {
        ShortVectorSigner x = new ShortVectorSigner();
        dueHash(x, HASH_OF_NOTHING);
        x.say(1);
        x.say(255);
        dueHash(x, HASH_OF_1_255);
        for (int i : outside(136)) {
            Due.due("hash(" + i + ")", x.hash(i), -1);
        }
    }

    private static void ball() {
        ShortVectorSigner x = new ShortVectorSigner();
        Reference reference = new Reference();
        for (int n = 0; n < 20; n++) {
            x.putSignature(n % 8, 37 * n % 256);
            reference.putSignature(n % 8, 37 * n % 256);
            x.putSignature(8 + n % 8, 99);
            int count = 0;
            for (int i = 0; i < 16; i++) {
                Due.due("ball(" + i + ")", x.ball(i), reference.ball(i));
                count += Math.abs(x.ball(i));
            }
            Due.due("coefficients of the ball that are not 0", count, 4);
            x = copyOfSeal(x);
        }
        for (int i : outside(16)) {
            Due.due("ball(" + i + ")", x.ball(i), 0);
        }
    }

    /** A new object, so that no object has more calls than the document allows. */
    private static ShortVectorSigner copyOfSeal(ShortVectorSigner x) {
        ShortVectorSigner copy = new ShortVectorSigner();
        for (int i = 0; i < 8; i++) {
            copy.putSignature(i, x.signatureByte(i));
        }
        return copy;
    }

    private static void rounded(int r, int high, int low) {
        ShortVectorSigner x = new ShortVectorSigner();
        Due.due("high(" + r + ")", x.high(r), high);
        Due.due("low(" + r + ")", x.low(r), low);
        Due.due("corrected(0, " + r + ")", x.corrected(0, r), high);
        Due.due("corrected(-2, " + r + ")", x.corrected(-2, r), high);
        int other = (low > 0 ? high + 1 : high + 4095) % 4096;
        Due.due("corrected(1, " + r + ")", x.corrected(1, r), other);
        Due.due("corrected(-1, " + r + ")", x.corrected(-1, r), other);
        Due.due("corrected(MIN + 1, " + r + ")", x.corrected(Integer.MIN_VALUE + 1, r), other);
        Due.due("corrected(MIN, " + r + ")", x.corrected(Integer.MIN_VALUE, r), high);
    }

    private static void highAndLowAndCorrected() {
        rounded(0, 0, 0);
        rounded(1, 0, 1);
        rounded(1023, 0, 1023);
        rounded(1024, 1, -1022);
        rounded(2045, 1, -1);
        rounded(2046, 1, 0);
        rounded(2047, 1, 1);
        rounded(3069, 1, 1023);
        rounded(3070, 2, -1022);
        rounded(4095 * 2046, 4095, 0);
        rounded(4095 * 2046 + 1, 4095, 1);
        rounded(8379393, 4095, 1023);
        rounded(8379394, 0, -1023);
        rounded(Q - 2, 0, -2);
        rounded(Q - 1, 0, -1);
        rounded(Q, 0, 0);
        rounded(Q + 1024, 1, -1022);
        rounded(-1, 0, -1);
        rounded(-1022, 0, -1022);
        rounded(-1023, 0, -1023);
        rounded(-1024, 4095, 1023);
        rounded(-Q, 0, 0);
        rounded(1 - Q, 0, 1);
        rounded(-Q - 1, 0, -1);
        rounded(Integer.MAX_VALUE, 1025, (int) (2147483647L % Q) - 1025 * 2046);
        rounded(Integer.MIN_VALUE, Reference.highOf(Reference.mod(Integer.MIN_VALUE)), 255);
    }

    private static void dueHint(int z, int r, int want) {
        Due.due("hint(" + z + ", " + r + ")", new ShortVectorSigner().hint(z, r), want);
    }

    private static void hint() {
        dueHint(0, 0, 0);
        dueHint(0, 1023, 0);
        dueHint(1, 1023, 1);
        dueHint(1, 1022, 0);
        dueHint(-1, 1024, 1);
        dueHint(-1, 1025, 0);
        dueHint(-1, 0, 0);
        dueHint(-1023, 0, 0);
        dueHint(-1024, 0, 1);
        dueHint(1023, 0, 0);
        dueHint(1024, 0, 1);
        dueHint(1, Q - 1, 0);
        dueHint(1, 8379393, 1);
        dueHint(-1, 8379394, 1);
        dueHint(Q, 5000, 0);
        dueHint(-Q, 5000, 0);
        dueHint(Q, -5000, 0);
        dueHint(Integer.MAX_VALUE, Integer.MAX_VALUE, Reference.hintOf(Integer.MAX_VALUE, Integer.MAX_VALUE));
        dueHint(Integer.MAX_VALUE - 2147483647 % Q + 1, 1023, Reference.hintOf(1L, 1023L));
        // A sum that left the ints would come to another number mod q here.
        dueHint(256 * Q, Q - 1, 0);
        dueHint(255 * Q, Q - 1, 0);
        dueHint(-256 * Q, -Q + 1, 0);
        dueHint(Integer.MIN_VALUE, Integer.MIN_VALUE, Reference.hintOf(Integer.MIN_VALUE, Integer.MIN_VALUE));
        dueHint(Integer.MAX_VALUE, 2046 * 4000, Reference.hintOf(Integer.MAX_VALUE, 2046 * 4000));
    }

    public static void main(String[] args) {
        newObject();                     // promise 1
        key();                           // promise 2
        keyLeavesMessageAndSignature();
        say();                           // promise 3
        hush();                          // promise 4
        sign();                          // promise 5; its limits: SigningEdgesTest
        signKeepsToTheKey();
        signDependsOnAllOfTheLong();
        verify();                        // promise 6; its limits: VerifyingEdgesTest
        verifyChangedBytes();
        bytesThatLieThere();             // promises 7, 8, 9, 10
        secret();                        // promise 11
        secretEnds();
        hash();                          // promise 12
        ball();                          // promise 13
        highAndLowAndCorrected();        // promises 14, 15, 17
        hint();                          // promise 16
        Due.end();
    }
}
