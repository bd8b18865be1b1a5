import java.lang.reflect.Constructor;
import java.lang.reflect.Field;
import java.lang.reflect.Method;
import java.lang.reflect.Modifier;
import java.util.Set;
import java.util.TreeSet;

/** The class has the document's face and shows nothing else. */
public final class FaceTest {
    private static final Set<String> FACE = Set.of(
            "public void key(long)", "public boolean say(int)", "public void hush()",
            "public int sign(long, int)", "public boolean verify()", "public int publicByte(int)",
            "public int signatureByte(int)", "public boolean putPublic(int, int)",
            "public boolean putSignature(int, int)", "public int secret(int, int)", "public int hash(int)",
            "public int ball(int)", "public int high(int)", "public int low(int)", "public int hint(int, int)",
            "public int corrected(int, int)", "public ShortVectorSigner()",
            "public static final int NONE", "public static final int EXHAUSTED");

    private static String textOf(String generic) {
        return generic.replace("ShortVectorSigner.", "").replace(",", ", ");
    }

    private static Set<String> shown(Class<?> type) {
        Set<String> shown = new TreeSet<>();
        for (Method method : type.getDeclaredMethods()) {
            if (!Modifier.isPrivate(method.getModifiers())) {
                shown.add(textOf(method.toString()));
            }
        }
        for (Constructor<?> constructor : type.getDeclaredConstructors()) {
            if (!Modifier.isPrivate(constructor.getModifiers())) {
                shown.add(textOf(constructor.toString()));
            }
        }
        for (Field field : type.getDeclaredFields()) {
            if (!Modifier.isPrivate(field.getModifiers())) {
                shown.add(textOf(field.toString()));
            }
        }
        return shown;
    }

    private static void namesOfHiddenMethods(Class<?> type) {
        Set<String> names = new TreeSet<>();
        for (Method method : ShortVectorSigner.class.getDeclaredMethods()) {
            if (Modifier.isPublic(method.getModifiers())) {
                names.add(method.getName());
            }
        }
        for (Method method : type.getDeclaredMethods()) {
            boolean bears = !Modifier.isPublic(method.getModifiers()) && names.contains(method.getName());
            Due.due(type.getName() + "." + method.getName() + " bears the name of a public method", bears, false);
        }
    }

    private static void staticFields(Class<?> type) {
        for (Field field : type.getDeclaredFields()) {
            int modifiers = field.getModifiers();
            boolean changeable = Modifier.isStatic(modifiers) && !Modifier.isFinal(modifiers);
            Due.due(type.getName() + "." + field.getName() + " is static and not final", changeable, false);
        }
    }

    public static void main(String[] args) {
        Class<?> type = ShortVectorSigner.class;
        Due.due("the class is public and final",
                Modifier.isPublic(type.getModifiers()) && Modifier.isFinal(type.getModifiers()), true);
        Set<String> shown = shown(type);
        for (String member : FACE) {
            Due.due("there is " + member, shown.contains(member), true);
        }
        for (String member : shown) {
            Due.due("the document has " + member, FACE.contains(member), true);
        }
        namesOfHiddenMethods(type);
        staticFields(type);
        for (Class<?> inside : type.getDeclaredClasses()) {
            Due.due(inside + " is static and not public",
                    Modifier.isStatic(inside.getModifiers()) && !Modifier.isPublic(inside.getModifiers()), true);
            namesOfHiddenMethods(inside);
            staticFields(inside);
        }
        Due.end();
    }
}
