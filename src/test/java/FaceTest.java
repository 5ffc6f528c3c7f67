import java.lang.reflect.Method;
import java.lang.reflect.Modifier;
import java.util.Arrays;
import java.util.TreeSet;
import java.util.stream.Collectors;

/** The public face is the document's, and the class shows nothing else. */
public final class FaceTest {
    private static final String INDEX = " IndexOutOfBoundsException";
    private static final String ARGUMENT = " IllegalArgumentException";
    private static final String STATE = " IllegalStateException";

    private static final String[] FACE = {
        "int later(int, int)" + ARGUMENT,
        "int weekday(int)" + ARGUMENT,
        "int addHoliday(int)" + ARGUMENT + STATE,
        "int working(int)" + ARGUMENT,
        "int addBond(int, int, int, int, int)" + ARGUMENT + STATE,
        "int setSink(int, int, int)" + INDEX + ARGUMENT + STATE,
        "int setCall(int, int, int)" + INDEX + ARGUMENT + STATE,
        "int setRate(int)" + ARGUMENT,
        "int bond(int, int)" + INDEX,
        "int coupon(int, int, int)" + INDEX,
        "int accrued(int, int)" + INDEX + ARGUMENT,
        "int worth(int, int)" + INDEX + ARGUMENT,
        "int yields(int, int)" + INDEX + ARGUMENT,
        "int moves(int, int)" + INDEX + ARGUMENT,
        "int callsAt(int)" + INDEX,
        "long buy(int, int, int)" + INDEX + ARGUMENT + STATE,
        "long sell(int, int, int)" + INDEX + ARGUMENT + STATE,
        "long pass(int)" + ARGUMENT + STATE,
        "long count(int)" + INDEX,
        "long paysIn(int)" + ARGUMENT,
        "int ladder(int, int)" + ARGUMENT,
        "int best(int)" + ARGUMENT,
        "double years()",
        "long digest()",
    };

    public static void main(String[] args) {
        Check.same("the class", "public final class BondDesk", BondDesk.class.toGenericString());
        Check.same("its constructors", "[public BondDesk()]", Arrays.toString(BondDesk.class.getDeclaredConstructors()));
        TreeSet<String> shown = new TreeSet<>();
        TreeSet<String> names = new TreeSet<>();
        for (Method method : BondDesk.class.getDeclaredMethods()) {
            if (!Modifier.isPrivate(method.getModifiers())) {
                Check.same(method.getName() + " is public", "public", Modifier.toString(method.getModifiers()));
                shown.add(told(method));
                names.add(method.getName());
            }
        }
        Check.same("the face", new TreeSet<>(Arrays.asList(FACE)).toString(), shown.toString());
        noOtherOfTheseNames(BondDesk.class, names);
        for (Class<?> inside : BondDesk.class.getDeclaredClasses()) {
            Check.same(inside + " is static", true, () -> Modifier.isStatic(inside.getModifiers()));
            noOtherOfTheseNames(inside, names);
        }
        Check.same("fields that are shown", 0L, () -> Arrays.stream(BondDesk.class.getDeclaredFields())
                .filter(field -> !Modifier.isPrivate(field.getModifiers())).count());
        Check.end();
    }

    private static String told(Method method) {
        String parameters = Arrays.stream(method.getParameterTypes()).map(Class::getSimpleName)
                .collect(Collectors.joining(", "));
        String exceptions = Arrays.stream(method.getExceptionTypes()).map(type -> " " + type.getSimpleName())
                .collect(Collectors.joining());
        return method.getReturnType() + " " + method.getName() + "(" + parameters + ")" + exceptions;
    }

    private static void noOtherOfTheseNames(Class<?> type, TreeSet<String> names) {
        for (Method method : type.getDeclaredMethods()) {
            boolean face = type == BondDesk.class && Modifier.isPublic(method.getModifiers());
            Check.same(type + " bears " + method.getName(), face, () -> names.contains(method.getName()));
        }
    }
}
