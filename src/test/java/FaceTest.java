import java.lang.reflect.Constructor;
import java.lang.reflect.Field;
import java.lang.reflect.Method;
import java.lang.reflect.Modifier;
import java.util.Arrays;
import java.util.Set;
import java.util.TreeSet;

/** The document's public face: all of it, and nothing beside it. */
public final class FaceTest {
    private static int wrong = 0;

    private static final String[] FACE = {
        "public static final int NONE",
        "public FractalMaps(int)",
        "public int put(int,int,int) throws IndexOutOfBoundsException,IllegalArgumentException",
        "public int paint(int,int,int)",
        "public int encode(int,int) throws IllegalArgumentException",
        "public int block(int,int) throws IndexOutOfBoundsException,IllegalArgumentException",
        "public int byteAt(int) throws IndexOutOfBoundsException",
        "public int feed(int) throws IllegalArgumentException,UnsupportedOperationException",
        "public int pass() throws UnsupportedOperationException",
        "public int read()",
        "public int decode(int,int) throws IllegalArgumentException,IllegalStateException",
        "public int at(int,int) throws IndexOutOfBoundsException",
        "public long missed() throws IllegalStateException",
        "public int domain(int,int,int,int,int) throws IllegalArgumentException,IndexOutOfBoundsException",
        "public int kind(int,int,int) throws IllegalArgumentException,IndexOutOfBoundsException",
        "public int tried()",
        "public int told(int)",
        "public void clear()",
    };

    public static void main(String[] args) {
        Set<String> want = new TreeSet<>(Arrays.asList(FACE));
        Set<String> have = new TreeSet<>();
        for (Field field : FractalMaps.class.getDeclaredFields()) {
            take(have, field.getModifiers(), field.toString());
        }
        for (Constructor<?> constructor : FractalMaps.class.getDeclaredConstructors()) {
            take(have, constructor.getModifiers(), constructor.toString());
        }
        Set<String> names = new TreeSet<>();
        for (Method method : FractalMaps.class.getDeclaredMethods()) {
            take(have, method.getModifiers(), method.toString());
            if (Modifier.isPublic(method.getModifiers())) {
                names.add(method.getName());
            }
        }
        for (Method method : FractalMaps.class.getDeclaredMethods()) {
            if (!Modifier.isPublic(method.getModifiers()) && names.contains(method.getName())) {
                wrong("a method that is not public bears the name " + method.getName());
            }
        }
        for (String one : want) {
            if (!have.contains(one)) {
                wrong("lacks: " + one);
            }
        }
        for (String one : have) {
            if (!want.contains(one)) {
                wrong("too much: " + one);
            }
        }
        if (FractalMaps.class.getModifiers() != (Modifier.PUBLIC | Modifier.FINAL)) {
            wrong("the class is not public and final");
        }
        classesInside();
        System.out.println(wrong == 0 ? "the face is as due" : wrong + " faults of the face");
        if (wrong != 0) {
            System.exit(1);
        }
    }

    private static void classesInside() {
        for (Class<?> inside : FractalMaps.class.getDeclaredClasses()) {
            int modifiers = inside.getModifiers();
            if (!Modifier.isStatic(modifiers) || Modifier.isPublic(modifiers) || Modifier.isProtected(modifiers)) {
                wrong(inside + " is to be static, and private or package-visible");
            }
            for (Field field : inside.getDeclaredFields()) {
                if (Modifier.isStatic(field.getModifiers()) && !Modifier.isFinal(field.getModifiers())) {
                    wrong(field + " is static state");
                }
            }
        }
    }

    private static void take(Set<String> have, int modifiers, String text) {
        if (!Modifier.isPrivate(modifiers)) {
            have.add(text.replace("java.lang.", "").replace("FractalMaps.", ""));
        }
    }

    private static void wrong(String text) {
        wrong++;
        System.out.println(text);
    }
}
