import java.lang.reflect.Constructor;
import java.lang.reflect.Field;
import java.lang.reflect.Method;
import java.lang.reflect.Modifier;
import java.util.Set;
import java.util.TreeSet;

/** The class has the public face of the document, and nothing else that can be seen from outside. */
final class FaceTest {
    private static final String[] FACE = {
        "int tick(int) IndexOutOfBoundsException IllegalStateException",
        "int sync(int) IndexOutOfBoundsException IllegalStateException",
        "int crash(int) IndexOutOfBoundsException IllegalStateException",
        "int start(int) IndexOutOfBoundsException IllegalStateException",
        "int compact(int) IndexOutOfBoundsException IllegalStateException",
        "char role(int) IndexOutOfBoundsException",
        "int term(int) IndexOutOfBoundsException",
        "int vote(int) IndexOutOfBoundsException NoSuchElementException",
        "int clock(int) IndexOutOfBoundsException",
        "int last(int) IndexOutOfBoundsException",
        "int synced(int) IndexOutOfBoundsException",
        "int committed(int) IndexOutOfBoundsException",
        "int snapshot(int) IndexOutOfBoundsException",
        "int members(int) IndexOutOfBoundsException",
        "int entryTerm(int,int) IndexOutOfBoundsException NoSuchElementException",
        "char entryKind(int,int) IndexOutOfBoundsException NoSuchElementException",
        "int waiting()",
        "int earliest() NoSuchElementException",
        "char kindOf(int) NoSuchElementException",
        "int between(int) NoSuchElementException",
        "int deliver(int) NoSuchElementException",
        "int lose(int) NoSuchElementException",
        "int copy(int) NoSuchElementException",
        "int write(int,int,int) IndexOutOfBoundsException IllegalArgumentException IllegalStateException",
        "int reshape(int,int,boolean) IndexOutOfBoundsException IllegalArgumentException IllegalStateException",
        "int change(int,int) IndexOutOfBoundsException IllegalArgumentException IllegalStateException"
            + " UnsupportedOperationException",
        "boolean hasLease(int) IndexOutOfBoundsException",
        "int readByLease(int,int) IndexOutOfBoundsException IllegalArgumentException IllegalStateException",
        "int askRead(int,int) IndexOutOfBoundsException IllegalArgumentException IllegalStateException",
        "char readState(int) NoSuchElementException",
        "int readValue(int) NoSuchElementException",
        "int readStale(int,int) IndexOutOfBoundsException IllegalArgumentException IllegalStateException",
        "int rangeOf(int,int) IndexOutOfBoundsException IllegalArgumentException IllegalStateException",
        "int load(int,int) IndexOutOfBoundsException IllegalArgumentException IllegalStateException",
        "int history()",
        "int valueByHistory(int) IllegalArgumentException",
        "long delivered()",
        "float refusedShare() ArithmeticException",
        "double meanLast()",
        "boolean isSound()",
    };

    public static void main(String[] args) {
        Class<?> type = QuorumAlmanac.class;
        Check.due("public and final", true,
            () -> Modifier.isPublic(type.getModifiers()) && Modifier.isFinal(type.getModifiers()));
        Check.due("its package", "", type::getPackageName);

        Set<String> due = new TreeSet<>(Set.of(FACE));
        Set<String> got = new TreeSet<>();
        Set<String> seen = new TreeSet<>();
        for (Method method : type.getDeclaredMethods()) {
            if (Modifier.isPublic(method.getModifiers())) {
                got.add(written(method));
            } else if (!Modifier.isPrivate(method.getModifiers()) && !method.isSynthetic()) {
                seen.add(method.getName());
            }
        }
        Check.due("public methods", due, () -> got);
        Check.due("other methods that can be seen", new TreeSet<String>(), () -> seen);
        Check.due("fields that can be seen", 0L, () -> seenFields(type));
        Constructor<?>[] made = type.getDeclaredConstructors();
        Check.due("constructors", "[public QuorumAlmanac(int)]", () -> java.util.Arrays.toString(made));
        Check.end();
    }

    private static long seenFields(Class<?> type) {
        long count = 0;
        for (Field field : type.getDeclaredFields()) {
            if (!Modifier.isPrivate(field.getModifiers()) && !field.isSynthetic()) {
                count++;
            }
        }
        return count;
    }

    private static String written(Method method) {
        StringBuilder text = new StringBuilder();
        text.append(method.getReturnType().getName()).append(' ').append(method.getName()).append('(');
        String comma = "";
        for (Class<?> part : method.getParameterTypes()) {
            text.append(comma).append(part.getName());
            comma = ",";
        }
        text.append(')');
        for (Class<?> thrown : method.getExceptionTypes()) {
            text.append(' ').append(thrown.getSimpleName());
        }
        return text.toString();
    }
}
