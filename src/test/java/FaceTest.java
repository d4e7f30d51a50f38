import java.lang.reflect.Constructor;
import java.lang.reflect.Field;
import java.lang.reflect.Method;
import java.lang.reflect.Modifier;
import java.util.Arrays;
import java.util.Set;
import java.util.TreeSet;

/** The public face as the document prints it, and nothing beside it. */
public final class FaceTest {
    private static final String[] METHODS = {"locker 0", "good 1", "duty 2", "load 3", "lockerOf 2", "missing 2",
        "seal 2", "bond 2", "nextBond 1", "use 3", "bring 3", "smash 4", "tear 1", "inspect 1", "cross 1", "pass 1",
        "set 2", "account 2", "cents 1", "count 1", "undo 0", "worth 2", "toPay 0", "runsOut 0", "type 1",
        "clearText 0", "fault 1", "play 0"};
    private static final Checks c = new Checks("FaceTest");

    public static void main(String[] args) throws IllegalAccessException {
        constants();
        methods();
        membersAreHidden();
        c.due(SealedStores.INVALID_ARGUMENT, -1);
        c.due(SealedStores.NOT_POSSIBLE, -2);
        c.due(SealedStores.LIMIT_REACHED, -3);
        c.due(SealedStores.NOT_FOUND, -4);
        c.end();
    }

    private static void constants() throws IllegalAccessException {
        int found = 0;
        for (Field field : SealedStores.class.getDeclaredFields()) {
            int modifiers = field.getModifiers();
            if (Modifier.isPublic(modifiers)) {
                found++;
                c.holds(Modifier.isStatic(modifiers) && Modifier.isFinal(modifiers), field + " is a constant");
                c.holds(field.getType() == int.class && field.getInt(null) < 0, field + " is an int");
            } else {
                c.holds(Modifier.isPrivate(modifiers) && Modifier.isFinal(modifiers), field + " is private");
            }
        }
        c.due(found, 4);
    }

    private static void methods() {
        Set<String> found = new TreeSet<>();
        Set<String> names = new TreeSet<>();
        for (Method method : SealedStores.class.getDeclaredMethods()) {
            if (Modifier.isPublic(method.getModifiers())) {
                c.holds(!Modifier.isStatic(method.getModifiers()), method + " is of an object");
                c.holds(method.getReturnType() == int.class, method + " returns int");
                for (Class<?> parameter : method.getParameterTypes()) {
                    c.holds(parameter == int.class, method + " takes int");
                }
                found.add(method.getName() + " " + method.getParameterCount());
                names.add(method.getName());
            }
        }
        c.holds(found.equals(new TreeSet<>(Arrays.asList(METHODS))), "the methods are those of the document: " + found);
        for (Method method : SealedStores.class.getDeclaredMethods()) {
            boolean isPrivate = Modifier.isPrivate(method.getModifiers());
            c.holds(isPrivate || names.contains(method.getName()), method + " is private");
            c.holds(!isPrivate || !names.contains(method.getName()), method + " bears no public name");
        }
    }

    private static void membersAreHidden() {
        c.holds(Modifier.isFinal(SealedStores.class.getModifiers()), "the class is final");
        Constructor<?>[] constructors = SealedStores.class.getDeclaredConstructors();
        c.due(constructors.length, 1);
        c.due(constructors[0].getParameterCount(), 0);
        c.holds(Modifier.isPublic(constructors[0].getModifiers()), "the constructor is public");
        for (Class<?> inside : SealedStores.class.getDeclaredClasses()) {
            c.holds(Modifier.isStatic(inside.getModifiers()), inside + " is static");
            c.holds(Modifier.isPrivate(inside.getModifiers()), inside + " is private");
            c.holds(inside.getDeclaredFields().length <= 20, inside + " has few fields");
        }
        c.holds(SealedStores.class.getDeclaredClasses().length <= 11, "there are few classes");
    }
}
