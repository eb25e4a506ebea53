import java.lang.reflect.Constructor;
import java.lang.reflect.Field;
import java.lang.reflect.Method;
import java.lang.reflect.Modifier;
import java.util.Arrays;
import java.util.Set;
import java.util.TreeSet;

/** The public face and its constants, and promise 1. */
public final class FaceTest {
    private static final Check CHECK = new Check();

    private static final String[] METHODS = {
        "int make(int) IllegalArgumentException IllegalStateException",
        "void set(int,int,int) NoSuchElementException IllegalArgumentException",
        "int get(int,int) NoSuchElementException IllegalArgumentException",
        "boolean put(int,int,int) NoSuchElementException IllegalArgumentException IllegalStateException",
        "int find(int,int) NoSuchElementException IllegalArgumentException",
        "boolean remove(int,int) NoSuchElementException IllegalArgumentException",
        "int key(int,int) NoSuchElementException IllegalArgumentException IndexOutOfBoundsException",
        "void root(int,int) IndexOutOfBoundsException NoSuchElementException",
        "int rootAt(int) IndexOutOfBoundsException",
        "void guard(int,int,int) NoSuchElementException IllegalArgumentException"
            + " IndexOutOfBoundsException IllegalStateException",
        "int collect()",
        "int run() NoSuchElementException",
        "int queued()",
        "int used()",
        "int kind(int) NoSuchElementException",
        "int serial(int) NoSuchElementException",
        "int collections()",
    };

    public static void main(String[] args) {
        constants();
        members();
        newObject();
        objectsAreApart();
        CHECK.finish();
    }

    private static void constants() {
        CHECK.equal("RECORD", EphemeronHeap.RECORD, 0);
        CHECK.equal("WEAK", EphemeronHeap.WEAK, 1);
        CHECK.equal("TABLE", EphemeronHeap.TABLE, 2);
        CHECK.equal("NONE", EphemeronHeap.NONE, -1);
    }

    private static void members() {
        CHECK.equal("public final class", EphemeronHeap.class.getModifiers(), Modifier.PUBLIC | Modifier.FINAL);
        Set<String> methods = new TreeSet<>();
        Set<String> names = new TreeSet<>();
        for (Method method : EphemeronHeap.class.getDeclaredMethods()) {
            if (!Modifier.isPrivate(method.getModifiers())) {
                methods.add(signature(method));
                names.add(method.getName());
            }
        }
        CHECK.equal("methods", methods.toString(), new TreeSet<>(Arrays.asList(METHODS)).toString());
        for (Method method : EphemeronHeap.class.getDeclaredMethods()) {
            if (Modifier.isPrivate(method.getModifiers())) {
                CHECK.equal("private " + method.getName() + " bears a public name",
                    names.contains(method.getName()), false);
            }
        }
        Set<String> fields = new TreeSet<>();
        for (Field field : EphemeronHeap.class.getDeclaredFields()) {
            if (!Modifier.isPrivate(field.getModifiers())) {
                fields.add(Modifier.toString(field.getModifiers()) + " " + field.getType() + " " + field.getName());
            }
        }
        CHECK.equal("fields", fields.toString(), "[public static final int NONE, public static final int RECORD, "
            + "public static final int TABLE, public static final int WEAK]");
        Constructor<?>[] constructors = EphemeronHeap.class.getDeclaredConstructors();
        CHECK.equal("constructors", constructors.length, 1);
        CHECK.equal("constructor", constructors[0].toString(), "public EphemeronHeap()");
    }

    private static String signature(Method method) {
        StringBuilder text = new StringBuilder();
        text.append(method.getReturnType()).append(' ').append(method.getName()).append('(');
        for (int i = 0; i < method.getParameterCount(); i++) {
            text.append(i == 0 ? "" : ",").append(method.getParameterTypes()[i]);
        }
        text.append(')');
        for (Class<?> exception : method.getExceptionTypes()) {
            text.append(' ').append(exception.getSimpleName());
        }
        return text.toString();
    }

    private static void newObject() {
        EphemeronHeap heap = new EphemeronHeap();
        CHECK.equal("a new object", Snapshot.of(heap), "collections 0 queued 0 roots -1 -1 -1 -1 -1 -1");
        CHECK.equal("used of a new object", heap.used(), 0);
    }

    private static void objectsAreApart() {
        EphemeronHeap one = new EphemeronHeap();
        EphemeronHeap other = new EphemeronHeap();
        one.root(0, one.make(EphemeronHeap.RECORD));
        one.collect();
        CHECK.equal("the other object", Snapshot.of(other), "collections 0 queued 0 roots -1 -1 -1 -1 -1 -1");
        CHECK.equal("first cell of the other object", other.make(EphemeronHeap.TABLE), 0);
        CHECK.equal("first serial of the other object", other.serial(0), 1);
    }
}
