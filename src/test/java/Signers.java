/** What the tests do with objects of ShortVectorSigner again and again. */
final class Signers {
    static final int PUBLIC_BYTES = 68;
    static final int SIGNATURE_BYTES = 62;
    static final int[] OUTSIDE_BYTES = {-1, 256, 257, 511, 1000, -255, -256, Integer.MIN_VALUE, Integer.MAX_VALUE};

    private Signers() {
    }

    /** Indexes that are not 0 .. count - 1: next to it, and far from it. */
    static int[] outside(int count) {
        return new int[] {-1, count, count + 1, -count, 256, 1 << 16, Integer.MIN_VALUE, Integer.MAX_VALUE};
    }

    static ShortVectorSigner withKey(long seed) {
        ShortVectorSigner x = new ShortVectorSigner();
        x.key(seed);
        return x;
    }

    static ShortVectorSigner withKey(long seed, String message) {
        ShortVectorSigner x = withKey(seed);
        say(x, message);
        return x;
    }

    static void say(ShortVectorSigner x, String message) {
        for (int b : bytesOf(message)) {
            x.say(b);
        }
    }

    /** An object without a key where these bytes lie. */
    static ShortVectorSigner carrying(String publicKey, String signature, String message) {
        ShortVectorSigner x = new ShortVectorSigner();
        int[] bytes = bytesOf(publicKey);
        for (int i = 0; i < bytes.length; i++) {
            x.putPublic(i, bytes[i]);
        }
        putSignature(x, signature);
        say(x, message);
        return x;
    }

    static void putSignature(ShortVectorSigner x, String signature) {
        int[] bytes = bytesOf(signature);
        for (int i = 0; i < bytes.length; i++) {
            x.putSignature(i, bytes[i]);
        }
    }

    static int[] bytesOf(String hex) {
        int[] bytes = new int[hex.length() / 2];
        for (int i = 0; i < bytes.length; i++) {
            bytes[i] = Integer.parseInt(hex.substring(2 * i, 2 * i + 2), 16);
        }
        return bytes;
    }

    static String hexOf(int... bytes) {
        StringBuilder hex = new StringBuilder();
        for (int b : bytes) {
            hex.append(String.format("%02x", b));
        }
        return hex.toString();
    }

    static String publicOf(ShortVectorSigner x) {
        int[] bytes = new int[PUBLIC_BYTES];
        for (int i = 0; i < PUBLIC_BYTES; i++) {
            bytes[i] = x.publicByte(i);
        }
        return hexOf(bytes);
    }

    static String signatureOf(ShortVectorSigner x) {
        int[] bytes = new int[SIGNATURE_BYTES];
        for (int i = 0; i < SIGNATURE_BYTES; i++) {
            bytes[i] = x.signatureByte(i);
        }
        return hexOf(bytes);
    }

    static String hashOf(ShortVectorSigner x, int from, int to) {
        int[] bytes = new int[to - from];
        for (int i = from; i < to; i++) {
            bytes[i - from] = x.hash(i);
        }
        return hexOf(bytes);
    }

    /** Bytes of the hash that no two messages of the tests share. */
    static String messageMark(ShortVectorSigner x) {
        return hashOf(x, 0, 8);
    }

    static String secretsOf(ShortVectorSigner x) {
        StringBuilder text = new StringBuilder();
        for (int i = 0; i < 96; i++) {
            text.append(x.secret(i / 16, i % 16)).append(' ');
        }
        return text.toString();
    }

    static String ballOf(ShortVectorSigner x) {
        StringBuilder text = new StringBuilder();
        for (int i = 0; i < 16; i++) {
            text.append(x.ball(i)).append(' ');
        }
        return text.toString().trim();
    }

    static String zeros(int bytes) {
        return "00".repeat(bytes);
    }
}
