import java.lang.reflect.Constructor;
import java.lang.reflect.Field;
import java.lang.reflect.Method;
import java.lang.reflect.Modifier;
import java.util.Arrays;
import java.util.TreeSet;

/** The public face: every constant, the constructor and every method of the document, and no other. */
public final class FaceTest {
    private static final Check check = new Check();

    public static void main(String[] args) {
        constants();
        members();
        check.end("FaceTest");
    }

    private static void constants() {
        check.due("NONE", FutexKernel.NONE, -1);
        check.due("RUNNING", FutexKernel.RUNNING, 0);
        check.due("WAITING", FutexKernel.WAITING, 1);
        check.due("LOCKING", FutexKernel.LOCKING, 2);
        check.due("DEAD", FutexKernel.DEAD, 3);
        check.due("WOKEN", FutexKernel.WOKEN, 0);
        check.due("TIMED_OUT", FutexKernel.TIMED_OUT, 1);
        check.due("INTERRUPTED", FutexKernel.INTERRUPTED, 2);
        check.due("HANDED", FutexKernel.HANDED, 3);
        check.due("OWNER_DIED", FutexKernel.OWNER_DIED, 4);
        check.due("ACQUIRED", FutexKernel.ACQUIRED, 0);
        check.due("ACQUIRED_FROM_DEAD", FutexKernel.ACQUIRED_FROM_DEAD, 1);
        check.due("MUST_WAIT", FutexKernel.MUST_WAIT, 2);
        check.due("DEADLOCK", FutexKernel.DEADLOCK, 3);
        check.due("NO_OWNER", FutexKernel.NO_OWNER, 4);
    }

    private static void members() {
        TreeSet<String> names = new TreeSet<>();
        for (Field field : FutexKernel.class.getDeclaredFields()) {
            if (!Modifier.isPrivate(field.getModifiers())) {
                names.add(Modifier.toString(field.getModifiers()) + " " + field.getType() + " " + field.getName());
            }
        }
        for (Method method : FutexKernel.class.getDeclaredMethods()) {
            if (!Modifier.isPrivate(method.getModifiers())) {
                String parameters = Arrays.toString(method.getParameterTypes());
                names.add(Modifier.toString(method.getModifiers()) + " " + method.getReturnType() + " "
                        + method.getName() + parameters + " throws " + thrown(method));
            }
        }
        for (Constructor<?> constructor : FutexKernel.class.getDeclaredConstructors()) {
            names.add(Modifier.toString(constructor.getModifiers()) + " new"
                    + Arrays.toString(constructor.getParameterTypes()));
        }
        check.due("the class", Modifier.toString(FutexKernel.class.getModifiers()), "public final");
        check.due("the members", String.join("\n", names), String.join("\n", dueMembers()));
    }

    private static TreeSet<String> dueMembers() {
        TreeSet<String> names = new TreeSet<>();
        String constants = "NONE RUNNING WAITING LOCKING DEAD WOKEN TIMED_OUT INTERRUPTED HANDED OWNER_DIED "
                + "ACQUIRED ACQUIRED_FROM_DEAD MUST_WAIT DEADLOCK NO_OWNER";
        for (String constant : constants.split(" ")) {
            names.add("public static final int " + constant);
        }
        names.add("public new[]");
        String methods = "int store 3 PS;boolean compareAndSet 4 PS;int fetchAdd 3 PS;int word 1 P;"
                + "boolean await 5 PAS;int wake 4 PAS;int requeue 6 PAS;int lock 3 PAS;int unlock 2 PS;"
                + "int locks 1 P;int lockAt 2 P;int blockedBy 1 P;void interrupt 1 PS;int exit 1 PS;"
                + "void start 1 PS;int setPriority 2 PAS;int tick 1 A;int now 0 -;int nextTimeout 0 -;"
                + "int stateOf 1 P;int addressOf 1 P;int resultOf 1 P;int serialOf 1 P;int waiters 1 P;"
                + "int waiterAt 2 P;int queueAt 2 P";
        for (String method : methods.split(";")) {
            String[] parts = method.split(" ");
            String[] parameters = new String[Integer.parseInt(parts[2])];
            Arrays.fill(parameters, "int");
            names.add("public " + parts[0] + " " + parts[1] + Arrays.toString(parameters) + " throws "
                    + (parts[3].equals("-") ? "" : parts[3]));
        }
        return names;
    }

    /** A letter for each exception that the method declares: no such place, argument, state. */
    private static String thrown(Method method) {
        StringBuilder letters = new StringBuilder();
        for (Class<?> exception : method.getExceptionTypes()) {
            letters.append(exception == IndexOutOfBoundsException.class ? 'P'
                    : exception == IllegalArgumentException.class ? 'A'
                    : exception == IllegalStateException.class ? 'S' : '?');
        }
        return letters.toString();
    }
}
