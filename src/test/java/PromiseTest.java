import java.util.Set;
import java.util.TreeSet;

/**
 * Promises 1 to 13, sentence by sentence: ordinary inputs, the boundary cases that it names, and refused
 * calls. Promises 14 to 17 are in RoundingTest, the terms in SamplesTest, SigningTest and VerifyingTest.
 */
public final class PromiseTest {
    private static final String FULL = Gold.MESSAGE;
    private static final String HASH_OF_NOTHING =
            "46b9dd2b0ba88d13233b3feb743eeb243fcd52ea62b81b82b50c27646ed5762fd75dc4ddd8c0f200cb05019d67b592f6fc"
            + "821c49479ab48640292eacb3b7c4be141e96616fb13957692cc7edd0b45ae3dc07223c8e92937bef84bc0eab862853349e"
            + "c75546f58fb7c2775c38462c5010d846c185c15111e595522a6bcd16cf86f3d122109e3b1fdd";
    private static final String HASH_OF_24_TIMES_255 =
            "16d4d4313a2a9940c25a08e5ee43b13e7c2b3ce9c8d20decccd3a4474477140284fb940e18ddd2843bcadd878c524dc2b5"
            + "20be30004bff5bf35ba064b17581ea2b2d0fb3e0f4c406eb7aad4db84da1d9d2823212458b26ed4dc307b4d8e0ae665ce2"
            + "dfef2f2b1c81cbfee86fb5b1af2feb2e8fd235c64e7be781cb7d59acb63201d621966b3cf8a3";
    private static final String NO_SECRETS = "0 ".repeat(96);

    private static String markOf(int length) {
        return Gold.HASHES[length].substring(0, 16);
    }

    private static void dueMessage(String when, ShortVectorSigner x, int length) {
        Due.due(when + ": the message", Signers.messageMark(x), markOf(length));
    }

    // ---- promise 1

    private static void noKeyAtFirst() {
        Due.sentence("1: No key");
        ShortVectorSigner x = new ShortVectorSigner();
        Due.due("sign(0, 1)", x.sign(0L, 1), -1);
        Due.due("sign(0, 30)", x.sign(0L, 30), -1);
        Due.due("secrets", Signers.secretsOf(x), NO_SECRETS);
    }

    private static void emptyMessageAtFirst() {
        Due.sentence("1: an empty message");
        ShortVectorSigner x = new ShortVectorSigner();
        Due.due("hash", Signers.hashOf(x, 0, 136), HASH_OF_NOTHING);
        for (int n = 1; n <= 24; n++) {
            Due.due("say(0) number " + n, x.say(0), true);
        }
        Due.due("say(0) number 25", x.say(0), false);
    }

    private static void zeroBytesAtFirst() {
        Due.sentence("1: 68 bytes for a public key and 62 for a signature, all 0");
        ShortVectorSigner x = new ShortVectorSigner();
        Due.due("public key", Signers.publicOf(x), Signers.zeros(68));
        Due.due("publicByte(68)", x.publicByte(68), -1);
        Due.due("signature", Signers.signatureOf(x), Signers.zeros(62));
        Due.due("signatureByte(62)", x.signatureByte(62), -1);
        Due.due("verify()", x.verify(), false);
    }

    private static void newBesideUsed() {
        Due.sentence("1: A new object, beside one that has been used");
        ShortVectorSigner used = Signers.withKey(1L, FULL);
        used.sign(7L, 30);
        ShortVectorSigner x = new ShortVectorSigner();
        Due.due("sign(7, 30)", x.sign(7L, 30), -1);
        Due.due("secrets", Signers.secretsOf(x), NO_SECRETS);
        Due.due("public key", Signers.publicOf(x), Signers.zeros(68));
        Due.due("signature", Signers.signatureOf(x), Signers.zeros(62));
        dueMessage("new", x, 0);
        x.key(2L);
        Due.due("public key of the used one", Signers.publicOf(used), Gold.publicOf(1L));
        Due.due("verify() of the used one", used.verify(), true);
    }

    private static void constants() {
        Due.sentence("The public face: NONE = -1, EXHAUSTED = -2");
        Due.due("NONE", ShortVectorSigner.NONE, -1);
        Due.due("EXHAUSTED", ShortVectorSigner.EXHAUSTED, -2);
    }

    // ---- promise 2

    private static void keyOfAnySeed() {
        Due.sentence("2: The key of this seed, any long");
        for (long seed : new long[] {0L, 1L, -1L, 255L, 256L, 1L << 56, Long.MIN_VALUE, Long.MAX_VALUE}) {
            ShortVectorSigner x = Signers.withKey(seed);
            Due.due("key(" + seed + "): public key", Signers.publicOf(x), Gold.publicOf(seed));
            Reference reference = new Reference();
            reference.key(seed);
            for (int i = 0; i < 96; i++) {
                Due.due("key(" + seed + "): secret(" + i / 16 + ", " + i % 16 + ")",
                        x.secret(i / 16, i % 16), reference.secret(i / 16, i % 16));
            }
        }
    }

    private static void keyFromNowOn() {
        Due.sentence("2: is the key from now on");
        ShortVectorSigner x = Signers.withKey(3L);
        x.sign(5L, 30);
        x.key(1L);
        Due.due("secrets", Signers.secretsOf(x), Signers.secretsOf(Signers.withKey(1L)));
        Due.due("sign(7, 30)", x.sign(7L, 30), Gold.tryOf(1L, "", 7L));
        Due.due("signature", Signers.signatureOf(x), Gold.signatureOf(1L, "", 7L));
        x.key(1L);
        Due.due("sign(7, 30) with the same key again", x.sign(7L, 30), Gold.tryOf(1L, "", 7L));
        Due.due("verify()", x.verify(), true);
    }

    private static void publicKeyLiesThere() {
        Due.sentence("2: and its public key lies there");
        ShortVectorSigner x = new ShortVectorSigner();
        for (int i = 0; i < 68; i++) {
            x.putPublic(i, 255);
        }
        x.key(1L);
        Due.due("public key over bytes of 255", Signers.publicOf(x), Gold.publicOf(1L));
        x.key(2L);
        Due.due("public key over another key's", Signers.publicOf(x), Gold.publicOf(2L));
        x.putPublic(67, 0);
        x.key(2L);
        Due.due("public key after a byte was put", Signers.publicOf(x), Gold.publicOf(2L));
    }

    private static void keyLeavesTheRest() {
        Due.sentence("2: the message and the signature stay");
        ShortVectorSigner x = Signers.withKey(1L);
        x.sign(7L, 30);
        Signers.say(x, FULL);
        x.key(2L);
        Due.due("signature", Signers.signatureOf(x), Gold.signatureOf(1L, "", 7L));
        dueMessage("after key(2)", x, 24);
        Due.due("say(0) with 24", x.say(0), false);
    }

    // ---- promise 3

    private static void sayTakesBytes() {
        Due.sentence("3: Adds a byte to the message");
        Set<String> marks = new TreeSet<>();
        for (int b = 0; b < 256; b++) {
            ShortVectorSigner x = new ShortVectorSigner();
            Due.due("say(" + b + ")", x.say(b), true);
            marks.add(Signers.messageMark(x));
        }
        Due.due("messages of one byte", marks.size(), 256);
        Due.due("the empty message is among them", marks.contains(markOf(0)), false);
        ShortVectorSigner x = new ShortVectorSigner();
        int[] bytes = Signers.bytesOf(FULL);
        for (int n = 0; n < 24; n++) {
            dueMessage("after " + n + " bytes", x, n);
            Due.due("say number " + (n + 1), x.say(bytes[n]), true);
        }
        dueMessage("after 24 bytes", x, 24);
    }

    private static void sayRefusesNoBytes() {
        Due.sentence("3: Refused (false) when b is not 0 .. 255");
        ShortVectorSigner x = new ShortVectorSigner();
        int[] bytes = Signers.bytesOf(FULL);
        for (int n = 0; n < 24; n++) {
            for (int b : Signers.OUTSIDE_BYTES) {
                Due.due("say(" + b + ") with " + n, x.say(b), false);
            }
            Due.due("say number " + (n + 1), x.say(bytes[n]), true);
        }
        for (int b : Signers.OUTSIDE_BYTES) {
            Due.due("say(" + b + ") with 24", x.say(b), false);
        }
        dueMessage("after refused bytes", x, 24);
    }

    private static void sayRefusesWith24() {
        Due.sentence("3: Refused (false) when it has 24");
        ShortVectorSigner x = new ShortVectorSigner();
        Signers.say(x, FULL.substring(0, 46));
        dueMessage("with 23", x, 23);
        Due.due("say(2) with 23", x.say(2), true);
        for (int b : new int[] {0, 1, 2, 128, 255}) {
            Due.due("say(" + b + ") with 24", x.say(b), false);
            dueMessage("after it", x, 24);
        }
    }

    private static void sayLeavesTheRest() {
        Due.sentence("3: the key, the public key and the signature stay");
        ShortVectorSigner x = Signers.withKey(1L);
        x.sign(7L, 30);
        Signers.say(x, FULL);
        x.say(256);
        Due.due("secrets", Signers.secretsOf(x), Signers.secretsOf(Signers.withKey(1L)));
        Due.due("public key", Signers.publicOf(x), Gold.publicOf(1L));
        Due.due("signature", Signers.signatureOf(x), Gold.signatureOf(1L, "", 7L));
    }

    // ---- promise 4

    private static void hushEmpties() {
        Due.sentence("4: The message is empty again");
        ShortVectorSigner x = new ShortVectorSigner();
        x.hush();
        dueMessage("hush of an empty message", x, 0);
        x.say(5);
        x.hush();
        dueMessage("hush of one byte", x, 0);
        Signers.say(x, FULL);
        x.hush();
        dueMessage("hush of a full message", x, 0);
        x.hush();
        dueMessage("hush twice", x, 0);
        for (int b : Signers.bytesOf(FULL)) {
            Due.due("say(" + b + ") after hush", x.say(b), true);
        }
        Due.due("say(0) with 24 after hush", x.say(0), false);
        dueMessage("24 bytes after hush", x, 24);
    }

    private static void hushLeavesTheRest() {
        Due.sentence("4: the key, the public key and the signature stay");
        ShortVectorSigner x = Signers.withKey(1L, "61");
        x.sign(7L, 30);
        x.hush();
        Due.due("public key", Signers.publicOf(x), Gold.publicOf(1L));
        Due.due("signature", Signers.signatureOf(x), Gold.signatureOf(1L, "61", 7L));
        Due.due("verify() without the message", x.verify(), false);
        x.say(0x61);
        Due.due("verify() with the message again", x.verify(), true);
        x.hush();
        Due.due("sign(7, 30) of the empty message", x.sign(7L, 30), Gold.tryOf(1L, "", 7L));
        Due.due("its signature", Signers.signatureOf(x), Gold.signatureOf(1L, "", 7L));
    }

    // ---- promise 5

    private static void signUpToTheFirst() {
        Due.sentence("5: the tries 1, 2, .. are made, up to the first that does not fail; its number is the answer");
        for (int tries = 1; tries <= 30; tries++) {
            ShortVectorSigner x = Signers.withKey(123456789L, "6869");
            Due.due("sign(1, " + tries + ")", x.sign(1L, tries), tries < 11 ? -2 : 11);
            Due.due("signature", Signers.signatureOf(x),
                    tries < 11 ? Signers.zeros(62) : Gold.signatureOf(123456789L, "6869", 1L));
        }
    }

    private static void signWithOneTry() {
        Due.sentence("5: tries is 1");
        ShortVectorSigner x = Signers.withKey(1L, "61");
        Due.due("sign(7, 1), and try 1 holds", x.sign(7L, 1), 1);
        Due.due("signature", Signers.signatureOf(x), Gold.signatureOf(1L, "61", 7L));
        x = Signers.withKey(1L);
        Due.due("sign(7, 1), and try 1 fails", x.sign(7L, 1), -2);
    }

    /** So late a try is rare: these were searched for. */
    private static void signWithThirtyTries() {
        Due.sentence("5: tries is 30, and try 30 is the first that does not fail");
        long[][] found = {{3L, 4913657L}, {7L, 36520704L}};
        for (long[] pair : found) {
            ShortVectorSigner x = Signers.withKey(pair[0]);
            Due.due("key(" + pair[0] + "), sign(" + pair[1] + ", 29)", x.sign(pair[1], 29), -2);
            Due.due("signature", Signers.signatureOf(x), Signers.zeros(62));
            Due.due("key(" + pair[0] + "), sign(" + pair[1] + ", 30)", x.sign(pair[1], 30), 30);
            Due.due("signature", Signers.signatureOf(x), Gold.signatureOf(pair[0], "", pair[1]));
            Due.due("verify()", x.verify(), true);
        }
    }

    private static void signExhausted() {
        Due.sentence("5: EXHAUSTED when all tries up to number tries fail");
        long[][] found = {{2L, 10542278L}, {1L, 25516628L}};
        for (long[] pair : found) {
            ShortVectorSigner x = Signers.withKey(pair[0]);
            for (int tries : new int[] {1, 2, 15, 29, 30}) {
                Due.due("key(" + pair[0] + "), sign(" + pair[1] + ", " + tries + ")", x.sign(pair[1], tries), -2);
            }
        }
    }

    private static void exhaustedLeavesTheSignature() {
        Due.sentence("5: EXHAUSTED .., the signature staying");
        ShortVectorSigner x = Signers.withKey(2L);
        for (int i = 0; i < 62; i++) {
            x.putSignature(i, 255 - i);
        }
        String put = Signers.signatureOf(x);
        Due.due("sign(10542278, 30)", x.sign(10542278L, 30), -2);
        Due.due("signature that was put", Signers.signatureOf(x), put);
        x = Signers.withKey(1L);
        x.sign(7L, 30);
        Due.due("sign(25516628, 30)", x.sign(25516628L, 30), -2);
        Due.due("sign(7, 2)", x.sign(7L, 2), -2);
        Due.due("signature that was signed", Signers.signatureOf(x), Gold.signatureOf(1L, "", 7L));
        Due.due("verify()", x.verify(), true);
    }

    private static void noneWithoutKey() {
        Due.sentence("5: NONE when there is no key");
        ShortVectorSigner x = Signers.carrying(Gold.publicOf(1L), Gold.signatureOf(1L, "61", 7L), "61");
        for (int tries : new int[] {1, 2, 30, 0, 31}) {
            Due.due("sign(7, " + tries + ") with only a public key put", x.sign(7L, tries), -1);
        }
        Due.due("signature", Signers.signatureOf(x), Gold.signatureOf(1L, "61", 7L));
        Due.due("verify()", x.verify(), true);
    }

    private static void noneWhenTriesAreOutside() {
        Due.sentence("5: NONE when tries is not 1 .. 30");
        ShortVectorSigner x = Signers.withKey(1L, "61");
        for (int tries : new int[] {0, 31, -1, 32, -30, 255, 257, Integer.MIN_VALUE, Integer.MAX_VALUE}) {
            Due.due("sign(7, " + tries + ")", x.sign(7L, tries), -1);
        }
        Due.due("signature", Signers.signatureOf(x), Signers.zeros(62));
        Due.due("sign(7, 1)", x.sign(7L, 1), 1);
        Due.due("sign(8, 0)", x.sign(8L, 0), -1);
        Due.due("sign(8, 31)", x.sign(8L, 31), -1);
        Due.due("signature", Signers.signatureOf(x), Gold.signatureOf(1L, "61", 7L));
    }

    private static void signAnyMessage() {
        Due.sentence("5: Signs the message, from the empty one to one of 24 bytes");
        for (String message : new String[] {"", "00", "ff", "ff".repeat(24), FULL, FULL.substring(0, 46)}) {
            ShortVectorSigner x = Signers.withKey(5L, message);
            Due.due("sign(0, 30) of " + message, x.sign(0L, 30), Gold.tryOf(5L, message, 0L));
            Due.due("signature", Signers.signatureOf(x), Gold.signatureOf(5L, message, 0L));
            Due.due("verify()", x.verify(), true);
        }
    }

    private static void signWithAnyLong() {
        Due.sentence("5: sign(long with, ..), any long");
        for (long with : new long[] {0L, -1L, 1L << 56, Long.MIN_VALUE, Long.MAX_VALUE}) {
            ShortVectorSigner x = Signers.withKey(5L);
            Due.due("sign(" + with + ", 30)", x.sign(with, 30), Gold.tryOf(5L, "", with));
            Due.due("signature", Signers.signatureOf(x), Gold.signatureOf(5L, "", with));
            Due.due("verify()", x.verify(), true);
        }
    }

    private static void signWithTheKey() {
        Due.sentence("5: with the key, whatever public key lies there");
        ShortVectorSigner x = Signers.withKey(1L);
        for (int i = 0; i < 68; i++) {
            x.putPublic(i, 255);
        }
        Due.due("sign(7, 30)", x.sign(7L, 30), Gold.tryOf(1L, "", 7L));
        Due.due("signature", Signers.signatureOf(x), Gold.signatureOf(1L, "", 7L));
        Due.due("public key", Signers.publicOf(x), "ff".repeat(68));
        Due.due("verify() with what lies there", x.verify(), false);
        x.key(1L);
        Due.due("verify() with the key's own", x.verify(), true);
    }

    private static void signLeavesTheRest() {
        Due.sentence("5: the key, the message and the public key stay");
        ShortVectorSigner x = Signers.withKey(1L, FULL);
        x.sign(7L, 30);
        Due.due("secrets", Signers.secretsOf(x), Signers.secretsOf(Signers.withKey(1L)));
        Due.due("public key", Signers.publicOf(x), Gold.publicOf(1L));
        dueMessage("after sign", x, 24);
    }

    // ---- promise 6; its limits are in VerifyingTest

    private static ShortVectorSigner signed() {
        ShortVectorSigner x = Signers.withKey(1L, "61");
        x.sign(7L, 30);
        return x;
    }

    private static void verifyWhatLiesThere() {
        Due.sentence("6: Whether verifying holds for what lies there and the message; no key is needed");
        ShortVectorSigner x = Signers.carrying(Gold.publicOf(1L), Gold.signatureOf(1L, "61", 7L), "");
        Due.due("verify() without the message", x.verify(), false);
        x.say(0x61);
        Due.due("verify()", x.verify(), true);
        Due.due("verify() again", x.verify(), true);
        x.say(0);
        Due.due("verify() with a byte more", x.verify(), false);
        x.hush();
        x.say(0x62);
        Due.due("verify() with another message", x.verify(), false);
        x.hush();
        x.say(0x61);
        x.key(2L);
        Due.due("verify() with another public key", x.verify(), false);
    }

    private static void verifyEverySignatureByte() {
        Due.sentence("6: every byte of the signature counts");
        ShortVectorSigner x = signed();
        for (int i = 0; i < 62; i++) {
            int was = x.signatureByte(i);
            x.putSignature(i, was ^ 1 << i % 8);
            Due.due("verify() with signature byte " + i + " changed", x.verify(), false);
            x.putSignature(i, was);
        }
        Due.due("verify() with the signature as it was", x.verify(), true);
    }

    private static void verifyEveryPublicByte() {
        Due.sentence("6: every byte of the public key counts");
        ShortVectorSigner x = signed();
        for (int i = 0; i < 68; i++) {
            int was = x.publicByte(i);
            x.putPublic(i, was ^ 1 << i % 8);
            Due.due("verify() with public byte " + i + " changed", x.verify(), false);
            x.putPublic(i, was);
        }
        Due.due("verify() with the public key as it was", x.verify(), true);
    }

    private static void verifyEveryMessageByte() {
        Due.sentence("6: every byte of the message counts");
        ShortVectorSigner from = Signers.withKey(5L);
        String publicKey = Signers.publicOf(from);
        String signature = Gold.signatureOf(5L, FULL, 0L);
        Due.due("verify()", Signers.carrying(publicKey, signature, FULL).verify(), true);
        for (int i = 0; i < 24; i++) {
            int[] bytes = Signers.bytesOf(FULL);
            bytes[i] ^= 1;
            Due.due("verify() with byte " + i + " of the message changed",
                    Signers.carrying(publicKey, signature, Signers.hexOf(bytes)).verify(), false);
        }
    }

    private static void verifyChangesNothing() {
        Due.sentence("6: verify changes nothing");
        ShortVectorSigner x = signed();
        x.verify();
        x.putSignature(61, 200);
        x.verify();
        x.putSignature(61, 2);
        Due.due("public key", Signers.publicOf(x), Gold.publicOf(1L));
        Due.due("signature", Signers.signatureOf(x), Gold.signatureOf(1L, "61", 7L));
        Due.due("secrets", Signers.secretsOf(x), Signers.secretsOf(Signers.withKey(1L)));
        x.hush();
        Due.due("sign(7, 30)", x.sign(7L, 30), Gold.tryOf(1L, "", 7L));
    }

    // ---- promises 7 to 10

    private static void publicBytes() {
        Due.sentence("7: Byte i of the public key that lies there");
        ShortVectorSigner x = Signers.withKey(1L);
        Due.due("public key", Signers.publicOf(x), Gold.publicOf(1L));
        Due.due("publicByte(0)", x.publicByte(0), 64);
        Due.due("publicByte(67)", x.publicByte(67), 22);
        Due.sentence("7: NONE when i is not 0 .. 67");
        for (int i : Signers.outside(68)) {
            Due.due("publicByte(" + i + ")", x.publicByte(i), -1);
            Due.due("new: publicByte(" + i + ")", new ShortVectorSigner().publicByte(i), -1);
        }
    }

    private static void signatureBytes() {
        Due.sentence("8: Byte i of the signature that lies there");
        ShortVectorSigner x = signed();
        Due.due("signature", Signers.signatureOf(x), Gold.signatureOf(1L, "61", 7L));
        Due.due("signatureByte(0)", x.signatureByte(0), 223);
        Due.due("signatureByte(61)", x.signatureByte(61), 2);
        Due.sentence("8: NONE when i is not 0 .. 61");
        for (int i : Signers.outside(62)) {
            Due.due("signatureByte(" + i + ")", x.signatureByte(i), -1);
            Due.due("new: signatureByte(" + i + ")", new ShortVectorSigner().signatureByte(i), -1);
        }
    }

    private static void putPublicBytes() {
        Due.sentence("9: Byte i of the public key that lies there becomes b");
        for (int i = 0; i < 68; i++) {
            ShortVectorSigner x = new ShortVectorSigner();
            Due.due("putPublic(" + i + ", 255)", x.putPublic(i, 255), true);
            Due.due("public key", Signers.publicOf(x), Signers.zeros(i) + "ff" + Signers.zeros(67 - i));
            Due.due("putPublic(" + i + ", 0)", x.putPublic(i, 0), true);
            Due.due("public key", Signers.publicOf(x), Signers.zeros(68));
            Due.due("signature", Signers.signatureOf(x), Signers.zeros(62));
        }
    }

    private static void putPublicLeavesTheKey() {
        Due.sentence("9: (the key stays)");
        ShortVectorSigner x = Signers.withKey(1L);
        for (int i = 0; i < 68; i++) {
            x.putPublic(i, 0);
        }
        Due.due("secrets", Signers.secretsOf(x), Signers.secretsOf(Signers.withKey(1L)));
        Due.due("sign(7, 30)", x.sign(7L, 30), Gold.tryOf(1L, "", 7L));
        Due.due("signature", Signers.signatureOf(x), Gold.signatureOf(1L, "", 7L));
    }

    private static void putPublicRefused() {
        Due.sentence("9: Refused (false) when i is not 0 .. 67");
        ShortVectorSigner x = Signers.withKey(1L);
        for (int i : Signers.outside(68)) {
            for (int b : new int[] {0, 255, -1, 256}) {
                Due.due("putPublic(" + i + ", " + b + ")", x.putPublic(i, b), false);
            }
        }
        Due.due("public key", Signers.publicOf(x), Gold.publicOf(1L));
        Due.sentence("9: Refused (false) when b not 0 .. 255");
        for (int b : Signers.OUTSIDE_BYTES) {
            for (int i : new int[] {0, 1, 66, 67}) {
                Due.due("putPublic(" + i + ", " + b + ")", x.putPublic(i, b), false);
            }
        }
        Due.due("public key", Signers.publicOf(x), Gold.publicOf(1L));
    }

    private static void putSignatureBytes() {
        Due.sentence("10: Byte i of the signature that lies there becomes b");
        for (int i = 0; i < 62; i++) {
            ShortVectorSigner x = new ShortVectorSigner();
            Due.due("putSignature(" + i + ", 255)", x.putSignature(i, 255), true);
            Due.due("signature", Signers.signatureOf(x), Signers.zeros(i) + "ff" + Signers.zeros(61 - i));
            Due.due("putSignature(" + i + ", 0)", x.putSignature(i, 0), true);
            Due.due("signature", Signers.signatureOf(x), Signers.zeros(62));
            Due.due("public key", Signers.publicOf(x), Signers.zeros(68));
        }
    }

    private static void putSignatureRefused() {
        Due.sentence("10: Refused (false) when i is not 0 .. 61");
        ShortVectorSigner x = signed();
        for (int i : Signers.outside(62)) {
            for (int b : new int[] {0, 255, -1, 256}) {
                Due.due("putSignature(" + i + ", " + b + ")", x.putSignature(i, b), false);
            }
        }
        Due.due("signature", Signers.signatureOf(x), Gold.signatureOf(1L, "61", 7L));
        Due.sentence("10: Refused (false) when b not 0 .. 255");
        for (int b : Signers.OUTSIDE_BYTES) {
            for (int i : new int[] {0, 1, 60, 61}) {
                Due.due("putSignature(" + i + ", " + b + ")", x.putSignature(i, b), false);
            }
        }
        Due.due("signature", Signers.signatureOf(x), Gold.signatureOf(1L, "61", 7L));
    }

    // ---- promise 11

    private static void secrets() {
        Due.sentence("11: Coefficient i, taken as in sizes, of s[0], s[1], e[0], e[1], t0[0], t0[1]");
        ShortVectorSigner x = Signers.withKey(1L);
        for (int which = 0; which < 6; which++) {
            for (int i = 0; i < 16; i++) {
                Due.due("secret(" + which + ", " + i + ")", x.secret(which, i), Gold.SECRETS_OF_1[which][i]);
            }
        }
    }

    private static void secretWithoutKey() {
        Due.sentence("11: 0 when there is no key");
        ShortVectorSigner x = Signers.carrying(Gold.publicOf(1L), Gold.signatureOf(1L, "61", 7L), "61");
        x.verify();
        Due.due("secrets after verify", Signers.secretsOf(x), NO_SECRETS);
        x.sign(7L, 30);
        Due.due("secrets after sign", Signers.secretsOf(x), NO_SECRETS);
    }

    private static void secretOutside() {
        Due.sentence("11: 0 when which is not 0 .. 5");
        ShortVectorSigner x = Signers.withKey(1L);
        for (int which : Signers.outside(6)) {
            for (int i = 0; i < 16; i++) {
                Due.due("secret(" + which + ", " + i + ")", x.secret(which, i), 0);
            }
        }
        Due.sentence("11: 0 when i not 0 .. 15");
        for (int i : Signers.outside(16)) {
            for (int which = 0; which < 6; which++) {
                Due.due("secret(" + which + ", " + i + ")", x.secret(which, i), 0);
            }
            Due.due("secret(-1, " + i + ")", x.secret(-1, i), 0);
            Due.due("secret(6, " + i + ")", x.secret(6, i), 0);
        }
        // Beside these lie coefficients that are not 0.
        Due.due("secret(0, 21)", x.secret(0, 21), 0);
        Due.due("secret(1, -11)", x.secret(1, -11), 0);
    }

    // ---- promise 12

    private static void hashOfEachLength() {
        Due.sentence("12: Byte i of H(message, 136)");
        for (int n = 0; n <= 24; n++) {
            ShortVectorSigner x = new ShortVectorSigner();
            Signers.say(x, FULL.substring(0, 2 * n));
            Due.due("hash with " + n + " bytes", Signers.hashOf(x, 0, 8) + Signers.hashOf(x, 128, 136), Gold.HASHES[n]);
        }
        ShortVectorSigner x = new ShortVectorSigner();
        Due.due("hash of nothing", Signers.hashOf(x, 0, 136), HASH_OF_NOTHING);
        Signers.say(x, "ff".repeat(24));
        Due.due("hash of 24 times 255", Signers.hashOf(x, 0, 136), HASH_OF_24_TIMES_255);
    }

    private static void hashOutside() {
        Due.sentence("12: NONE when i is not 0 .. 135");
        ShortVectorSigner x = new ShortVectorSigner();
        Due.due("hash(0)", x.hash(0), 0x46);
        Due.due("hash(135)", x.hash(135), 0xdd);
        for (int i : Signers.outside(136)) {
            Due.due("hash(" + i + ")", x.hash(i), -1);
        }
        Signers.say(x, FULL);
        for (int i : Signers.outside(136)) {
            Due.due("hash(" + i + ") with 24", x.hash(i), -1);
        }
    }

    // ---- promise 13; more of BALL in SamplesTest

    private static void ballOfTheSeal() {
        Due.sentence("13: of BALL(bytes 0 .. 7 of the signature that lies there)");
        ShortVectorSigner x = new ShortVectorSigner();
        String first = "0 1 0 0 0 0 0 0 1 0 0 0 1 -1 0 0";
        Due.due("ball of zeros", Signers.ballOf(x), first);
        for (int i = 8; i < 62; i++) {
            x.putSignature(i, 255);
        }
        x.key(1L);
        x.say(1);
        Due.due("ball with bytes 8 .. 61, key and message changed", Signers.ballOf(x), first);
        for (int i = 0; i < 8; i++) {
            x.putSignature(i, 1);
            Due.due("ball with byte " + i + " changed is the same", Signers.ballOf(x).equals(first), false);
            x.putSignature(i, 0);
        }
        Due.due("ball of zeros again", Signers.ballOf(x), first);
        Due.due("ball after sign", ballAfterSign(), "0 0 0 0 1 0 0 0 1 0 0 1 0 0 1 0");
    }

    private static String ballAfterSign() {
        ShortVectorSigner x = Signers.withKey(1L);
        x.sign(7L, 30);
        return Signers.ballOf(x);
    }

    private static void ballOutside() {
        Due.sentence("13: 0 when i is not 0 .. 15");
        ShortVectorSigner x = new ShortVectorSigner();
        for (int i : Signers.outside(16)) {
            Due.due("ball(" + i + ")", x.ball(i), 0);
        }
        // Coefficients 1 and 13 of this ball are not 0.
        for (int i : new int[] {17, 29, -15, -3, 33}) {
            Due.due("ball(" + i + ")", x.ball(i), 0);
        }
    }

    // ---- all promises

    private static void readingChangesNothing() {
        Due.sentence("7, 8, 11 to 17: what is only read stays, refused or not");
        ShortVectorSigner x = Signers.withKey(1L, FULL);
        Signers.putSignature(x, Gold.signatureOf(1L, "", 7L));
        for (int i : new int[] {-1, 0, 15, 16, 61, 62, 67, 68, 135, 136}) {
            x.publicByte(i);
            x.signatureByte(i);
            x.secret(i, i);
            x.hash(i);
            x.ball(i);
            x.high(i);
            x.low(i);
            x.hint(i, i);
            x.corrected(i, i);
        }
        Due.due("public key", Signers.publicOf(x), Gold.publicOf(1L));
        Due.due("signature", Signers.signatureOf(x), Gold.signatureOf(1L, "", 7L));
        Due.due("secrets", Signers.secretsOf(x), Signers.secretsOf(Signers.withKey(1L)));
        dueMessage("after reading", x, 24);
        x.hush();
        Due.due("sign(7, 30)", x.sign(7L, 30), Gold.tryOf(1L, "", 7L));
        Due.due("verify()", x.verify(), true);
    }

    private static void lastCall() {
        Due.sentence("An object is used for at most 512 calls");
        ShortVectorSigner x = Signers.withKey(1L);
        for (int n = 2; n <= 509; n++) {
            x.putSignature(n % 62, n % 256);
        }
        Due.due("call 510: sign(7, 30)", x.sign(7L, 30), Gold.tryOf(1L, "", 7L));
        Due.due("call 511: verify()", x.verify(), true);
        Due.due("call 512: signatureByte(0)", x.signatureByte(0), 223);
    }

    public static void main(String[] args) {
        constants();
        noKeyAtFirst();
        emptyMessageAtFirst();
        zeroBytesAtFirst();
        newBesideUsed();
        keyOfAnySeed();
        keyFromNowOn();
        publicKeyLiesThere();
        keyLeavesTheRest();
        sayTakesBytes();
        sayRefusesNoBytes();
        sayRefusesWith24();
        sayLeavesTheRest();
        hushEmpties();
        hushLeavesTheRest();
        signUpToTheFirst();
        signWithOneTry();
        signWithThirtyTries();
        signExhausted();
        exhaustedLeavesTheSignature();
        noneWithoutKey();
        noneWhenTriesAreOutside();
        signAnyMessage();
        signWithAnyLong();
        signWithTheKey();
        signLeavesTheRest();
        verifyWhatLiesThere();
        verifyEverySignatureByte();
        verifyEveryPublicByte();
        verifyEveryMessageByte();
        verifyChangesNothing();
        publicBytes();
        signatureBytes();
        putPublicBytes();
        putPublicLeavesTheKey();
        putPublicRefused();
        putSignatureBytes();
        putSignatureRefused();
        secrets();
        secretWithoutKey();
        secretOutside();
        hashOfEachLength();
        hashOutside();
        ballOfTheSeal();
        ballOutside();
        readingChangesNothing();
        lastCall();
        Due.end();
    }
}
