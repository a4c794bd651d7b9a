import java.lang.reflect.Constructor;
import java.lang.reflect.Field;
import java.lang.reflect.Method;
import java.lang.reflect.Modifier;
import java.util.Arrays;
import java.util.TreeSet;

/** The class's face is the document's, to the letter, and nothing more can be reached. */
public final class FaceTest {
    private static final String ILLEGAL = " throws java.lang.IllegalArgumentException";
    private static final String MISSING = ILLEGAL + ",java.util.NoSuchElementException";
    private static final String OUTSIDE = MISSING + ",java.lang.IndexOutOfBoundsException";

    private static final String[] METHODS = {
        "public long LatticeWraps.make(int,long,long,long)" + ILLEGAL,
        "public long LatticeWraps.wrap(int,int,int)" + MISSING,
        "public long LatticeWraps.unwrap(int,int)" + MISSING,
        "public int LatticeWraps.change(int,int,int)" + OUTSIDE,
        "public void LatticeWraps.copy(int,int)" + MISSING,
        "public boolean LatticeWraps.forget(boolean,int)" + ILLEGAL,
        "public int LatticeWraps.wrapByte(int,int)" + OUTSIDE,
        "public int LatticeWraps.publicByte(int,int)" + OUTSIDE,
        "public int LatticeWraps.entry(int,int,int,int)" + OUTSIDE,
        "public int LatticeWraps.noise(int,int,int,int)" + OUTSIDE,
        "public int LatticeWraps.read(int,int)" + MISSING,
        "public long LatticeWraps.shake(int,long)" + ILLEGAL,
    };

    public static void main(String[] args) {
        Checks checks = new Checks();
        TreeSet<String> seen = new TreeSet<>();
        TreeSet<String> publicNames = new TreeSet<>();
        TreeSet<String> privateNames = new TreeSet<>();
        for (Method method : LatticeWraps.class.getDeclaredMethods()) {
            if (Modifier.isPrivate(method.getModifiers())) {
                privateNames.add(method.getName());
            } else {
                publicNames.add(method.getName());
                seen.add(method.toString());
            }
        }
        checks.due("the methods", seen.toString(),
                new TreeSet<>(Arrays.asList(METHODS)).toString());
        privateNames.retainAll(publicNames);
        checks.due("private methods with a public one's name", privateNames.toString(), "[]");
        Constructor<?>[] constructors = LatticeWraps.class.getDeclaredConstructors();
        checks.due("the constructors", Arrays.toString(constructors), "[public LatticeWraps()]");
        for (Field field : LatticeWraps.class.getDeclaredFields()) {
            checks.due(field.getName() + " is private and final",
                    Modifier.toString(field.getModifiers() & ~Modifier.STATIC), "private final");
        }
        for (Class<?> inside : LatticeWraps.class.getDeclaredClasses()) {
            checks.due(inside.getName() + " is static and not public", inside.getModifiers()
                    & (Modifier.STATIC | Modifier.PUBLIC | Modifier.PROTECTED), Modifier.STATIC);
        }
        checks.due("the class", Modifier.toString(LatticeWraps.class.getModifiers()),
                "public final");
        checks.end("FaceTest");
    }
}
