import java.lang.reflect.Constructor;
import java.lang.reflect.Field;
import java.lang.reflect.Method;
import java.lang.reflect.Modifier;
import java.util.Arrays;
import java.util.List;
import java.util.TreeSet;

/** The public face has every member of the document and no other; nothing else can be seen or is static and changes. */
public final class FaceTest {
    private static final String NUMBER = " throws IllegalArgumentException";
    private static final String TIME = " throws IllegalStateException";
    private static final String BOTH = " throws IllegalArgumentException,IllegalStateException";
    private static final List<String> METHODS = List.of(
        "public int put(int)" + BOTH, "public int fill(int,int,int)" + BOTH, "public int encode()" + TIME,
        "public int parameter(int)" + NUMBER, "public int feed(long,int)" + BOTH, "public int take()",
        "public int decode()", "public int hand(int)", "public int sample(int)" + NUMBER,
        "public void reset(int)" + NUMBER, "public int state(int,int)" + NUMBER, "public int about(int)" + NUMBER);

    public static void main(String[] args) {
        Check.test("face: the class", FaceTest::modifiers);
        Check.test("face: methods", FaceTest::methods);
        Check.test("face: constructors", FaceTest::constructors);
        Check.test("face: constants", FaceTest::allFields);
        Check.end();
    }

    private static void modifiers() {
        Check.due("public and final", VoiceFrames.class.getModifiers(), Modifier.PUBLIC | Modifier.FINAL);
    }

    private static void allFields() {
        fields(VoiceFrames.class);
        for (Class<?> inside : VoiceFrames.class.getDeclaredClasses()) {
            fields(inside);
        }
    }

    private static void methods() {
        TreeSet<String> seen = new TreeSet<>();
        TreeSet<String> publicNames = new TreeSet<>();
        for (Method method : VoiceFrames.class.getDeclaredMethods()) {
            if (Modifier.isPublic(method.getModifiers())) {
                publicNames.add(method.getName());
                seen.add(method.toString().replace("VoiceFrames.", "").replace("java.lang.", ""));
            }
        }
        Check.due("public methods", seen.toString(), new TreeSet<>(METHODS).toString());
        for (Method method : VoiceFrames.class.getDeclaredMethods()) {
            int modifiers = method.getModifiers();
            if (!Modifier.isPublic(modifiers) && !method.isSynthetic()) {
                Check.due(method + " is private", modifiers & Modifier.PRIVATE, Modifier.PRIVATE);
                Check.due(method + " bears a public name", publicNames.contains(method.getName()) ? 1 : 0, 0);
            }
        }
    }

    private static void constructors() {
        Constructor<?>[] all = VoiceFrames.class.getDeclaredConstructors();
        Check.due("constructors", Arrays.toString(all), "[public VoiceFrames()]");
    }

    private static void fields(Class<?> owner) {
        for (Field field : owner.getDeclaredFields()) {
            int modifiers = field.getModifiers();
            if (owner == VoiceFrames.class && !Modifier.isPrivate(modifiers)) {
                Check.due("a field that is seen", field.toString(), "public static final int VoiceFrames.NONE");
            }
            if (Modifier.isStatic(modifiers)) {
                Check.due(field + " is final", modifiers & Modifier.FINAL, Modifier.FINAL);
            }
        }
    }
}
