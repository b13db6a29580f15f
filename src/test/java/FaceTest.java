import java.lang.reflect.Constructor;
import java.lang.reflect.Field;
import java.lang.reflect.Method;
import java.lang.reflect.Modifier;
import java.util.Arrays;
import java.util.TreeSet;

/** The public face: just the document's members, with its exceptions, and NONE. */
public final class FaceTest {
    private static final String[] FACE = {
        "public static final int BalanceRoom.NONE",
        "public BalanceRoom()",
        "public int BalanceRoom.read(int,long) throws java.lang.IllegalArgumentException",
        "public int BalanceRoom.order(int,int) throws java.lang.IllegalArgumentException,"
            + "java.lang.IllegalStateException",
        "public int BalanceRoom.wipe()",
        "public long BalanceRoom.show(int) throws java.lang.IllegalArgumentException,"
            + "java.lang.IllegalStateException,java.lang.ArithmeticException",
        "public int BalanceRoom.keep(int) throws java.lang.IllegalArgumentException,"
            + "java.lang.IllegalStateException,java.lang.ArithmeticException",
        "public int BalanceRoom.failed()",
        "public long BalanceRoom.reach(int,int) throws java.lang.IllegalArgumentException,"
            + "java.lang.IllegalStateException",
        "public int BalanceRoom.top(int,boolean) throws java.lang.IllegalArgumentException",
        "public long BalanceRoom.look(int,int) throws java.lang.IllegalArgumentException",
        "public int BalanceRoom.forget(int) throws java.lang.IllegalArgumentException",
    };

    public static void main(String[] args) {
        Check check = new Check();
        TreeSet<String> seen = new TreeSet<>();
        for (Field field : BalanceRoom.class.getDeclaredFields()) {
            if (!Modifier.isPrivate(field.getModifiers())) {
                seen.add(field.toString());
            }
        }
        for (Method method : BalanceRoom.class.getDeclaredMethods()) {
            if (!Modifier.isPrivate(method.getModifiers())) {
                seen.add(method.toString());
            }
        }
        for (Constructor<?> constructor : BalanceRoom.class.getDeclaredConstructors()) {
            seen.add(constructor.toString());
        }
        check.compare("the face", new TreeSet<>(Arrays.asList(FACE)).toString(), seen.toString());
        check.compare("the class", "public final", Modifier.toString(BalanceRoom.class.getModifiers()));
        check.due("NONE", -1, () -> BalanceRoom.NONE);
        check.end();
    }
}
