import java.lang.reflect.Constructor;
import java.lang.reflect.Field;
import java.lang.reflect.InvocationTargetException;
import java.lang.reflect.Method;
import java.util.Arrays;

/**
 * Boundary cases of the terms that no call of the face can be brought to: samples that run out of bytes,
 * bytes that fill H's block, a v that is too long. They are put to the classes inside, by their names.
 */
public final class InsideTest {
    private static final int Q = 8380417;
    private static final int NOT_LESS = 8388607;
    private static final String HASH_OF_134 =
            "fdf7c2189e1ad345b774a020d5b57c74e57fbaa1ab7dd0cafe59137b9dbc906a5535859424de8a12e44af627d45638d355"
            + "efb79a625d790e597ab42104377f90e55229b1fc455451bfb95dda7f0c0b99f629e173f1bbd9330105c5017f007ccb1c5c"
            + "397a0bf5ab0ebefac001a323e17a2297aee5f596fa6772c3a4f9bbe345ec997c226ec56c68b1";
    private static final String HASH_OF_135 =
            "d2fbe0a6ded494501cc37fd4f5da330b23e16601b12e4c37f332fdeb44311e6323db9fafa88327234ab271a50e5e9f5557"
            + "0595e8cec78296d0f3f4e2388d63916f3b751cd1d1f07005d4f6cbe4c215eb87f38195fee6fe0c81a6b11aa74ed2e724b8"
            + "2989e6500da519e01161869c1bec2f686f4592593eaa043c2e2b8d12b3fcc9826b8d0c7f8462";

    private static Object call(Object on, String type, String name, Object... arguments)
            throws ReflectiveOperationException {
        for (Method method : Class.forName("ShortVectorSigner$" + type).getDeclaredMethods()) {
            if (method.getName().equals(name)) {
                method.setAccessible(true);
                return method.invoke(on, arguments);
            }
        }
        throw new NoSuchMethodException(type + "." + name);
    }

    private static Object fieldOf(Object on, String name) throws ReflectiveOperationException {
        Field field = on.getClass().getDeclaredField(name);
        field.setAccessible(true);
        return field.get(on);
    }

    // ---- H

    private static String hashOf(int count) throws ReflectiveOperationException {
        Constructor<?> constructor = Class.forName("ShortVectorSigner$Hasher").getDeclaredConstructor();
        constructor.setAccessible(true);
        Object hasher = constructor.newInstance();
        call(hasher, "Hasher", "begin");
        for (int i = 0; i < count; i++) {
            call(hasher, "Hasher", "take", (7 * i + 1) % 256);
        }
        return Signers.hexOf((int[]) call(hasher, "Hasher", "finish"));
    }

    private static void fullBlock() throws ReflectiveOperationException {
        Due.sentence("H: the bytes x (at most 135); the byte behind the last one is 31, byte 135 is XORed with 128");
        Due.due("H of 134 bytes", hashOf(134), HASH_OF_134);
        Due.due("H of 135 bytes", hashOf(135), HASH_OF_135);
    }

    // ---- packing

    private static void lastByte() throws ReflectiveOperationException {
        Due.sentence("PACK: what is left of the last byte is 0");
        int[] bytes = new int[2];
        call(null, "Packing", "write", bytes, 0, 0, 12, 4095);
        Due.due("one number of 12 bits", Signers.hexOf(bytes), "ff0f");
    }

    // ---- samples

    /** All bytes of a stream make UNIFORM numbers that are not less than q, but for the places given. */
    private static int[] uniformStream(int number, int... places) {
        int[] stream = new int[136];
        for (int i = 0; i < 45; i++) {
            putNumber(stream, i, NOT_LESS);
        }
        for (int place : places) {
            putNumber(stream, place, number);
        }
        return stream;
    }

    private static void putNumber(int[] stream, int place, int number) {
        stream[3 * place] = number & 255;
        stream[3 * place + 1] = number >> 8 & 255;
        stream[3 * place + 2] = number >> 16;
    }

    private static void dueSample(String name, int[] stream, int filled, int number)
            throws ReflectiveOperationException {
        int[] row = new int[48];
        Arrays.fill(row, 77);
        call(null, "Samples", name, stream, row, 16);
        for (int i = 0; i < 48; i++) {
            int due = i < 16 || i >= 32 ? 77 : i - 16 < filled ? number : 0;
            Due.due(name + " with " + filled + " numbers, place " + (i - 16), row[i], due);
        }
    }

    private static int[] firstPlaces(int count) {
        int[] places = new int[count];
        for (int i = 0; i < count; i++) {
            places[i] = i;
        }
        return places;
    }

    private static void fewUniform() throws ReflectiveOperationException {
        Due.sentence("UNIFORM: if there are fewer, the others are 0");
        dueSample("fillUniform", uniformStream(5), 0, 5);
        dueSample("fillUniform", uniformStream(5, 44), 1, 5);
        dueSample("fillUniform", uniformStream(Q - 1, firstPlaces(15)), 15, Q - 1);
        Due.sentence("UNIFORM: there are just 16, the last of them in the last of 135 bytes");
        int[] places = firstPlaces(16);
        places[15] = 44;
        dueSample("fillUniform", uniformStream(Q - 1, places), 16, Q - 1);
        Due.sentence("UNIFORM: there are more, and the first 16 are taken");
        dueSample("fillUniform", uniformStream(9, firstPlaces(45)), 16, 9);
    }

    /** All numbers of four bits are 15, but for the places given, where they are 14. */
    private static int[] smallStream(int... places) {
        int[] stream = new int[136];
        Arrays.fill(stream, 255);
        for (int place : places) {
            stream[place / 2] ^= 1 << 4 * (place % 2);
        }
        return stream;
    }

    private static void fewSmall() throws ReflectiveOperationException {
        Due.sentence("SMALL: (others 0)");
        dueSample("fillSmall", smallStream(), 0, -2);
        dueSample("fillSmall", smallStream(127), 1, -2);
        dueSample("fillSmall", smallStream(firstPlaces(15)), 15, -2);
        Due.sentence("SMALL: from H(x, 64), and no byte behind");
        dueSample("fillSmall", smallStream(128, 129, 130), 0, -2);
        int[] places = firstPlaces(16);
        places[15] = 127;
        dueSample("fillSmall", smallStream(places), 16, -2);
        Due.sentence("SMALL: the first 16 of these");
        dueSample("fillSmall", smallStream(firstPlaces(40)), 16, -2);
    }

    private static void dueBall(int[] stream, String want) throws ReflectiveOperationException {
        int[] row = new int[16];
        Arrays.fill(row, 77);
        call(null, "Samples", "fillSigns", stream, row);
        Due.due("ball", Arrays.toString(row), want);
    }

    private static void noBallByte() throws ReflectiveOperationException {
        Due.sentence("BALL: when there is none, j is 0");
        int[] stream = new int[136];
        // 15 fits i = 15, but the bytes were left out when i = 12 found none: so the words are read here.
        Arrays.fill(stream, 1, 33, 255);
        // These lie behind byte 32 and would be taken if they counted.
        Arrays.fill(stream, 33, 136, 9);
        dueBall(stream, "[1, 0, 0, 0, 0, 0, 0, 0, 0, 0, 0, 0, 0, 1, 1, 1]");
        stream[0] = 0b0101;
        dueBall(stream, "[1, 0, 0, 0, 0, 0, 0, 0, 0, 0, 0, 0, 0, -1, 1, -1]");
        Due.sentence("BALL: bytes H(x, 33): byte 32 is the last one");
        stream[32] = 0x37;
        dueBall(stream, "[1, 0, 0, 0, 0, 0, 0, -1, 0, 0, 0, 0, 0, 0, 1, -1]");
        stream[31] = 0xF8;
        dueBall(stream, "[1, 0, 0, 0, 0, 0, 0, 1, -1, 0, 0, 0, 0, 0, 0, -1]");
    }

    // ---- sizes

    private static void dueCentered(long x, int want) throws ReflectiveOperationException {
        Due.due("centered(" + x + ")", (int) call(null, "Ring", "centered", x), want);
    }

    private static void dueSize(int want, int... coefficients) throws ReflectiveOperationException {
        for (int place : new int[] {0, 15, 16, 31}) {
            int[] vector = new int[32];
            for (int i = 0; i < coefficients.length; i++) {
                vector[(place + i) % 32] = coefficients[i];
            }
            Due.due("size of " + Arrays.toString(coefficients) + " at " + place,
                    (int) call(null, "Ring", "size", vector), want);
        }
    }

    private static void sizes() throws ReflectiveOperationException {
        Due.sentence("SIZE: taken as the number from -(q - 1) / 2 to (q - 1) / 2 that it is mod q");
        dueCentered(4190208L, 4190208);
        dueCentered(4190209L, -4190208);
        dueCentered(-4190208L, -4190208);
        dueCentered(-4190209L, 4190208);
        dueCentered(0L, 0);
        dueCentered(Q - 1L, -1);
        dueCentered(Q, 0);
        dueCentered(-Q, 0);
        Due.sentence("SIZE: the greatest absolute value of its 32 coefficients");
        dueSize(0);
        dueSize(1, 1);
        dueSize(1, Q - 1);
        dueSize(7, 5, Q - 7);
        dueSize(7, 7, -5);
        dueSize(4190208, 4190208);
        dueSize(4190208, 4190209);
    }

    // ---- the size of v

    /** With one coefficient of t0 that is not 0, the size of v is its own, and hardly any hints come of it. */
    private static void dueTryWith(int place, int t0, int want) throws ReflectiveOperationException {
        ShortVectorSigner x = Signers.withKey(1L);
        int[] row = (int[]) fieldOf(fieldOf(x, "secretKey"), "t0");
        Arrays.fill(row, 0);
        row[place] = t0;
        Due.due("sign(6, 1) with t0 of " + t0 + " at " + place, x.sign(6L, 1), want);
    }

    private static void sizeOfV() throws ReflectiveOperationException {
        Due.sentence("The try FAILS when the size of v is 1023 or more");
        for (int place : new int[] {0, 15, 16, 31}) {
            dueTryWith(place, 1023, -2);
            dueTryWith(place, -1023, -2);
            dueTryWith(place, Q - 1023, -2);
            dueTryWith(place, 4000000, -2);
        }
        Due.sentence("The try FAILS when the size of v is 1023 or more; not when it is 1022");
        for (int place : new int[] {0, 15, 16, 31}) {
            dueTryWith(place, 1022, 1);
            dueTryWith(place, -1022, 1);
            dueTryWith(place, Q - 1022, 1);
        }
    }

    public static void main(String[] args) throws ReflectiveOperationException {
        try {
            fullBlock();
            lastByte();
            fewUniform();
            fewSmall();
            noBallByte();
            sizes();
            sizeOfV();
        } catch (InvocationTargetException thrown) {
            thrown.getCause().printStackTrace(System.out);
            System.exit(1);
        }
        Due.end();
    }
}
