import java.lang.reflect.Constructor;
import java.lang.reflect.Field;
import java.lang.reflect.Method;
import java.lang.reflect.Modifier;
import java.util.Arrays;
import java.util.List;
import java.util.Set;
import java.util.TreeSet;
import java.util.stream.Collectors;

/** The class shows the document's face and nothing else, and no private method bears a face name. */
public final class FaceTest {
    private static final List<String> FACE = List.of(
            "int treaty(int,int,boolean)", "int credit(int,int,int)", "int repay(int)",
            "int rain(int,int)", "int bail(int,int)", "int buy(int)", "int month()",
            "int townOf(int,int)", "int creditOf(int,int)", "int owes(int)", "int owesAgain(int)",
            "int due(int)", "int far(int,int)", "int drizzle(int,int,int)",
            "int drizzleAgain(int,int,int)", "int would(int,int,int)", "int most(int,int)",
            "int ranked(int)", "int next(int)", "boolean isCounted()", "double meanSun()",
            "float paidShare()", "int account(int)", "int write(int)", "int writeCredits()",
            "int written(int)", "int append(char)", "int read()", "int fault()",
            "int reason(int,boolean)", "int undo()", "int save()", "int restore()");
    private static final List<String> CONSTANTS =
            List.of("NONE", "BAD", "STATE", "FULL", "REFUSED", "NOTHING");
    private static int wrong = 0;

    private FaceTest() {
    }

    public static void main(String[] args) {
        Class<?> face = WeatherMinistry.class;
        check(face.getModifiers() == (Modifier.PUBLIC | Modifier.FINAL), "public and final");
        Constructor<?>[] constructors = face.getDeclaredConstructors();
        check(constructors.length == 1 && constructors[0].getParameterCount() == 0
                && Modifier.isPublic(constructors[0].getModifiers()), "one public constructor");
        methods(face);
        fields(face);
        inside(face);
        System.out.println(wrong == 0 ? "the face is as due" : wrong + " faults in the face");
        if (wrong > 0) {
            System.exit(1);
        }
    }

    private static void check(boolean isDue, String text) {
        if (!isDue) {
            wrong++;
            System.out.println("not as due: " + text);
        }
    }

    private static String signature(Method method) {
        return method.getReturnType().getSimpleName() + " " + method.getName() + "("
                + Arrays.stream(method.getParameterTypes()).map(Class::getSimpleName)
                        .collect(Collectors.joining(",")) + ")";
    }

    private static void methods(Class<?> face) {
        Set<String> shown = new TreeSet<>();
        for (Method method : face.getDeclaredMethods()) {
            if (!Modifier.isPrivate(method.getModifiers())) {
                shown.add(signature(method));
                check(method.getModifiers() == Modifier.PUBLIC, signature(method));
            } else {
                check(!isFaceName(method.getName()), "private " + method.getName());
            }
        }
        check(shown.equals(new TreeSet<>(FACE)), "the public methods: " + shown);
    }

    private static boolean isFaceName(String name) {
        return FACE.stream().anyMatch(line -> line.contains(" " + name + "("));
    }

    private static void fields(Class<?> face) {
        Set<String> shown = new TreeSet<>();
        for (Field field : face.getDeclaredFields()) {
            int kind = field.getModifiers();
            if (!Modifier.isPrivate(kind)) {
                shown.add(field.getName());
                check(kind == (Modifier.PUBLIC | Modifier.STATIC | Modifier.FINAL)
                        && field.getType() == int.class, field.getName());
            }
            check(!Modifier.isStatic(kind) || Modifier.isFinal(kind), field.getName());
        }
        check(shown.equals(new TreeSet<>(CONSTANTS)), "the constants: " + shown);
    }

    private static void inside(Class<?> face) {
        check(face.getDeclaredClasses().length <= 12, "some twelve classes");
        for (Class<?> part : face.getDeclaredClasses()) {
            check(!Modifier.isPublic(part.getModifiers()) && Modifier.isStatic(part.getModifiers()),
                    part.getName());
            for (Method method : part.getDeclaredMethods()) {
                check(!isFaceName(method.getName()), part.getName() + "." + method.getName());
            }
            check(part.getDeclaredFields().length <= 20, "the fields of " + part.getName());
        }
    }
}
