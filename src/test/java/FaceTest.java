import java.lang.reflect.Constructor;
import java.lang.reflect.Field;
import java.lang.reflect.Method;
import java.lang.reflect.Modifier;
import java.util.Arrays;
import java.util.Set;
import java.util.TreeSet;
import java.util.stream.Collectors;

/** The face of the class is the document's, with its exceptions, and nothing else is seen. */
public final class FaceTest {
    private static final String[] FACE = {
        "public boolean cable(int, int, boolean) IndexOutOfBoundsException",
        "public int write(int, int, int, int) IndexOutOfBoundsException IllegalArgumentException "
                + "IllegalStateException UnsupportedOperationException",
        "public int withdraw(int, int) IndexOutOfBoundsException NoSuchElementException "
                + "IllegalStateException UnsupportedOperationException",
        "public boolean decide(int) IndexOutOfBoundsException IllegalStateException "
                + "UnsupportedOperationException",
        "public void giveUp(int) IndexOutOfBoundsException IllegalStateException "
                + "UnsupportedOperationException",
        "public int resend(int) IndexOutOfBoundsException IllegalStateException "
                + "UnsupportedOperationException",
        "public void unlock(int) IndexOutOfBoundsException IllegalStateException",
        "public void ask(int, int) IndexOutOfBoundsException IllegalStateException "
                + "UnsupportedOperationException",
        "public boolean stop(int) IndexOutOfBoundsException",
        "public boolean start(int) IndexOutOfBoundsException",
        "public int letters()",
        "public int deliver(int) IndexOutOfBoundsException IllegalStateException "
                + "UnsupportedOperationException",
        "public void lose(int) IndexOutOfBoundsException",
        "public void twin(int) IndexOutOfBoundsException UnsupportedOperationException",
        "public int letter(int, int) IndexOutOfBoundsException IllegalArgumentException",
        "public int count(int) IndexOutOfBoundsException",
        "public int entry(int, int, boolean) IndexOutOfBoundsException NoSuchElementException",
        "public int about(int, int) IndexOutOfBoundsException IllegalArgumentException",
        "public boolean allowed(int) IllegalArgumentException",
        "public int inForce(int, int, int) IndexOutOfBoundsException"};

    private static final Due due = new Due("FaceTest");

    private static String names(Class<?>[] types, String between) {
        return Arrays.stream(types).map(Class::getSimpleName)
                .collect(Collectors.joining(between));
    }

    private static String told(Method m) {
        return (Modifier.toString(m.getModifiers()) + " " + m.getReturnType().getSimpleName() + " "
                + m.getName() + "(" + names(m.getParameterTypes(), ", ") + ") "
                + names(m.getExceptionTypes(), " ")).trim();
    }

    private static void methods() {
        Set<String> seen = new TreeSet<>();
        Set<String> publicNames = new TreeSet<>();
        for (Method m : NoticeStations.class.getDeclaredMethods()) {
            if (!Modifier.isPrivate(m.getModifiers())) {
                seen.add(told(m));
                publicNames.add(m.getName());
            }
        }
        due.is("methods", seen.toString(), new TreeSet<>(Arrays.asList(FACE)).toString());
        for (Method m : NoticeStations.class.getDeclaredMethods()) {
            if (Modifier.isPrivate(m.getModifiers())) {
                due.is("a private method named " + m.getName(),
                        publicNames.contains(m.getName()), false);
            }
        }
    }

    private static void fields() {
        Set<String> seen = new TreeSet<>();
        for (Field f : NoticeStations.class.getDeclaredFields()) {
            if (!Modifier.isPrivate(f.getModifiers())) {
                seen.add(f.toString());
            }
        }
        due.is("fields", seen.toString(), "[public static final int NoticeStations.NONE]");
    }

    private static void classes() {
        due.is("the class", Modifier.toString(NoticeStations.class.getModifiers()),
                "public final");
        Constructor<?>[] made = NoticeStations.class.getDeclaredConstructors();
        due.is("constructors", made.length, 1);
        due.is("the constructor", made[0].toString(), "public NoticeStations()");
        for (Class<?> c : NoticeStations.class.getDeclaredClasses()) {
            due.is(c.getName() + " is static", Modifier.isStatic(c.getModifiers()), true);
            due.is(c.getName() + " is not for others",
                    Modifier.isPublic(c.getModifiers()) || Modifier.isProtected(c.getModifiers()),
                    false);
        }
    }

    public static void main(String[] args) {
        methods();
        fields();
        classes();
        due.end();
    }
}
