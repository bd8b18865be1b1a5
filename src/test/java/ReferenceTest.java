import java.util.Random;

/** Long runs of calls of all kinds, on the program and on the reference. */
public final class ReferenceTest {
    private static final int RUNS = 400;
    /** Steps have up to nine calls, and the end has 226: a run stays within the 512 of the document. */
    private static final int STEPS = 31;
    private static final int[] EDGES = {
        0, 1, -1, 255, 256, 1022, 1023, 1024, 1025, 2045, 2046, 2047, 3069, 3070,
        Reference.Q - 1024, Reference.Q - 1023, Reference.Q - 1022, Reference.Q - 1, Reference.Q, Reference.Q + 1,
        -Reference.Q, 1 - Reference.Q, Integer.MAX_VALUE, Integer.MIN_VALUE
    };

    private final Random random;
    private final ShortVectorSigner program = new ShortVectorSigner();
    private final Reference reference = new Reference();
    private final String run;

    private ReferenceTest(int number) {
        random = new Random(number);
        run = "run " + number + ": ";
    }

    private int about(int count) {
        return random.nextInt(count + 4) - 2;
    }

    private int anyInt() {
        int kind = random.nextInt(4);
        if (kind == 0) {
            return EDGES[random.nextInt(EDGES.length)];
        }
        if (kind == 1) {
            return 2046 * random.nextInt(4097) + random.nextInt(5) - 2 + (random.nextBoolean() ? 1023 : 0);
        }
        return kind == 2 ? random.nextInt(Reference.Q) : random.nextInt();
    }

    private void step() {
        switch (random.nextInt(18)) {
            case 0 -> key();
            case 1, 2 -> say(random.nextInt(8) == 0 ? about(256) : random.nextInt(256));
            case 3 -> hush();
            case 4, 5, 6 -> sign(random.nextInt(3) == 0 ? random.nextLong() : random.nextInt(5),
                    random.nextInt(4) == 0 ? about(31) : 30);
            case 7, 8 -> verify();
            case 9 -> putPublic();
            case 10 -> putSignature();
            default -> look();
        }
    }

    private void key() {
        long seed = random.nextBoolean() ? random.nextLong() : random.nextInt(9) - 4;
        program.key(seed);
        reference.key(seed);
    }

    private void hush() {
        if (random.nextInt(4) == 0) {
            program.hush();
            reference.hush();
        }
    }

    private void say(int b) {
        Due.due(run + "say(" + b + ")", program.say(b), reference.say(b));
    }

    private void sign(long with, int tries) {
        Due.due(run + "sign(" + with + ", " + tries + ")", program.sign(with, tries), reference.sign(with, tries));
    }

    private void verify() {
        Due.due(run + "verify()", program.verify(), reference.verify());
    }

    private void putPublic() {
        int i = about(68);
        int b = random.nextInt(4) == 0 ? about(256) : random.nextInt(256);
        Due.due(run + "putPublic(" + i + ", " + b + ")", program.putPublic(i, b), reference.putPublic(i, b));
    }

    private void putSignature() {
        int i = random.nextBoolean() ? about(62) : 48 + random.nextInt(14);
        int b = random.nextInt(4) == 0 ? about(256) : random.nextInt(16);
        Due.due(run + "putSignature(" + i + ", " + b + ")", program.putSignature(i, b), reference.putSignature(i, b));
    }

    private void look() {
        int r = anyInt();
        int z = random.nextBoolean() ? anyInt() : random.nextInt(2047) - 1023;
        int a = about(6);
        int i = about(16);
        Due.due(run + "high(" + r + ")", program.high(r), reference.high(r));
        Due.due(run + "low(" + r + ")", program.low(r), reference.low(r));
        Due.due(run + "hint(" + z + ", " + r + ")", program.hint(z, r), reference.hint(z, r));
        Due.due(run + "corrected(" + z + ", " + r + ")", program.corrected(z, r), reference.corrected(z, r));
        Due.due(run + "secret(" + a + ", " + i + ")", program.secret(a, i), reference.secret(a, i));
        Due.due(run + "ball(" + i + ")", program.ball(i), reference.ball(i));
        i = about(136);
        Due.due(run + "hash(" + i + ")", program.hash(i), reference.hash(i));
        i = about(68);
        Due.due(run + "publicByte(" + i + ")", program.publicByte(i), reference.publicByte(i));
        i = about(62);
        Due.due(run + "signatureByte(" + i + ")", program.signatureByte(i), reference.signatureByte(i));
    }

    private void everything() {
        for (int i = 0; i < 68; i++) {
            Due.due(run + "at its end publicByte(" + i + ")", program.publicByte(i), reference.publicByte(i));
        }
        for (int i = 0; i < 62; i++) {
            Due.due(run + "at its end signatureByte(" + i + ")", program.signatureByte(i), reference.signatureByte(i));
        }
        for (int i = 0; i < 96; i++) {
            Due.due(run + "at its end secret(" + i / 16 + ", " + i % 16 + ")",
                    program.secret(i / 16, i % 16), reference.secret(i / 16, i % 16));
        }
    }

    public static void main(String[] args) {
        for (int number = 1; number <= RUNS; number++) {
            ReferenceTest test = new ReferenceTest(number);
            for (int n = 0; n < STEPS; n++) {
                test.step();
            }
            test.everything();
        }
        Due.end();
    }
}
