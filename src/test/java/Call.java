import java.lang.reflect.InvocationTargetException;
import java.lang.reflect.Method;
import java.util.Set;

/** One call with its arguments, written as in the document's runs: "load(0, 0, 10)". */
final class Call {
    private static final Set<String> LOOKS = Set.of("lockerOf", "missing", "seal", "bond", "nextBond", "account",
        "cents", "count", "worth", "toPay", "runsOut", "fault");

    private final String written;
    private final String name;
    private final Object[] arguments;
    private final Method method;

    Call(String written) {
        this.written = written;
        int open = written.indexOf('(');
        name = written.substring(0, open);
        String inside = written.substring(open + 1, written.length() - 1);
        String[] parts = inside.isEmpty() ? new String[0] : inside.split(", ");
        arguments = new Object[parts.length];
        Class<?>[] types = new Class<?>[parts.length];
        for (int i = 0; i < parts.length; i++) {
            arguments[i] = Integer.valueOf(parts[i]);
            types[i] = int.class;
        }
        try {
            method = SealedStores.class.getMethod(name, types);
        } catch (NoSuchMethodException e) {
            throw new IllegalStateException(written, e);
        }
    }

    /** Whether the document says that this call changes nothing, whatever it answers. */
    boolean looks() {
        return LOOKS.contains(name);
    }

    int on(SealedStores x) {
        try {
            return (int) method.invoke(x, arguments);
        } catch (IllegalAccessException | InvocationTargetException e) {
            throw new IllegalStateException(written, e);
        }
    }

    @Override
    public String toString() {
        return written;
    }
}
