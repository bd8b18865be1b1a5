import java.io.IOException;
import java.lang.reflect.Method;
import java.lang.reflect.Modifier;
import java.nio.file.Files;
import java.nio.file.Path;

/**
 * README.md says how to use the class: its example is the code below, word for word, and does what its
 * comments say; and it tells every call of the face. Run from the project's directory.
 */
public final class ReadmeTest {
    private static final String BEGIN = "        // The example begins.\n";
    private static final String END = "        // The example ends.\n";

    private static void exampleDoesWhatItSays() {
        // The example begins.
        // Make a key of a seed, say the message byte by byte, and sign it.
        ShortVectorSigner signer = new ShortVectorSigner();
        signer.key(1L);
        signer.say(104);
        signer.say(105);
        int number = signer.sign(7L, 30);   // 1: the first try did not fail
        boolean holds = signer.verify();    // true

        // Carry the public key and the signature over to an object that has no key, and verify there.
        ShortVectorSigner verifier = new ShortVectorSigner();
        for (int i = 0; i < 68; i++) {
            verifier.putPublic(i, signer.publicByte(i));
        }
        for (int i = 0; i < 62; i++) {
            verifier.putSignature(i, signer.signatureByte(i));
        }
        verifier.say(104);
        verifier.say(105);
        boolean holdsThere = verifier.verify();   // true

        // Another message is not signed by it.
        verifier.say(33);
        boolean holdsForMore = verifier.verify(); // false
        // The example ends.
        Due.due("number", number, 1);
        Due.due("holds", holds, true);
        Due.due("holdsThere", holdsThere, true);
        Due.due("holdsForMore", holdsForMore, false);
    }

    private static String between(String text, String begin, String end) {
        int from = text.indexOf(begin) + begin.length();
        return text.substring(from, text.indexOf(end, from));
    }

    private static void exampleIsTheSame(String readme) throws IOException {
        String source = Files.readString(Path.of("src/test/java/ReadmeTest.java"));
        // The markers' own constants lie above the code, written with \n and not with a line's end.
        String code = between(source, BEGIN, END).replaceAll("(?m)^ {8}", "");
        Due.due("the example", between(readme, "```java\n", "```"), code);
    }

    private static void everyCallIsTold(String readme) {
        for (Method method : ShortVectorSigner.class.getDeclaredMethods()) {
            if (Modifier.isPublic(method.getModifiers())) {
                Due.due("README tells " + method.getName(), readme.contains("`" + method.getName() + "("), true);
            }
        }
        Due.due("README tells NONE", readme.contains("`NONE` (" + ShortVectorSigner.NONE + ")"), true);
        Due.due("README tells EXHAUSTED", readme.contains("`EXHAUSTED` (" + ShortVectorSigner.EXHAUSTED + ")"), true);
    }

    private static void everyTestIsTold(String readme) throws IOException {
        try (var files = Files.list(Path.of("src/test/java"))) {
            for (Path file : files.toList()) {
                String name = file.getFileName().toString().replace(".java", "");
                if (name.endsWith("Test")) {
                    Due.due("README tells " + name, readme.contains("`" + name + "`"), true);
                }
            }
        }
    }

    public static void main(String[] args) throws IOException {
        String readme = Files.readString(Path.of("README.md"));
        exampleDoesWhatItSays();
        exampleIsTheSame(readme);
        everyCallIsTold(readme);
        everyTestIsTold(readme);
        Due.end();
    }
}
