import java.lang.reflect.Constructor;
import java.lang.reflect.Field;
import java.lang.reflect.Method;
import java.lang.reflect.Modifier;
import java.util.Arrays;
import java.util.Set;
import java.util.TreeSet;

/** The public face is the document's, with nothing beside it that could be seen from outside. */
public final class FaceTest {
    private static final String[] FACE = {
        "public boolean weak()",
        "public byte out(int) throws ArrayIndexOutOfBoundsException",
        "public int apply(int,boolean,byte) throws IllegalStateException,UnsupportedOperationException",
        "public int digest(int) throws IllegalArgumentException",
        "public int end()",
        "public int entry(int,int) throws IndexOutOfBoundsException",
        "public int filter(int) throws IllegalArgumentException",
        "public int key(int,int) throws IllegalStateException",
        "public int make(int) throws IllegalStateException",
        "public int metadata(boolean)",
        "public int open(int) throws IllegalArgumentException,IllegalStateException,UnsupportedOperationException",
        "public int tape(int) throws UnsupportedOperationException",
        "public int told(int) throws IndexOutOfBoundsException",
        "public int word(int,boolean) throws UnsupportedOperationException",
        "public void alter(int,int,byte) throws IndexOutOfBoundsException",
        "public void id(byte) throws UnsupportedOperationException",
    };

    public static void main(String[] args) {
        Set<String> due = new TreeSet<>(Arrays.asList(FACE));
        Set<String> got = new TreeSet<>();
        boolean right = true;
        for (Method method : CryptRows.class.getDeclaredMethods()) {
            if (!Modifier.isPrivate(method.getModifiers())) {
                got.add(method.toString().replace("CryptRows.", "").replace("java.lang.", ""));
            } else if (FACE_NAMES.contains(method.getName())) {
                right = fault("a private method bears the name of a public one: " + method);
            }
        }
        if (!got.equals(due)) {
            right = fault("the face is " + got);
        }
        Constructor<?>[] constructors = CryptRows.class.getDeclaredConstructors();
        if (constructors.length != 1 || !constructors[0].toString().equals("public CryptRows(int)")) {
            right = fault("the constructors are " + Arrays.toString(constructors));
        }
        if (!Modifier.isFinal(CryptRows.class.getModifiers())) {
            right = fault("the class is not final");
        }
        for (Field field : CryptRows.class.getDeclaredFields()) {
            if (!Modifier.isPrivate(field.getModifiers())) {
                right = fault("not private: " + field);
            }
        }
        System.exit(right ? 0 : 1);
    }

    private static final Set<String> FACE_NAMES = new TreeSet<>(Arrays.asList(
        "word", "id", "tape", "metadata", "make", "entry", "alter", "open", "key",
        "filter", "apply", "end", "out", "digest", "weak", "told"));

    private static boolean fault(String what) {
        System.out.println(what);
        return false;
    }
}
