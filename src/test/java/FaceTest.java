import java.lang.reflect.Constructor;
import java.lang.reflect.Field;
import java.lang.reflect.Method;
import java.lang.reflect.Modifier;
import java.util.Arrays;
import java.util.List;
import java.util.Map;
import java.util.TreeMap;
import java.util.stream.Collectors;

/** The public face: each signature with its exceptions, and nothing else that is not private. */
public final class FaceTest {
    private static final String INDEX = "IndexOutOfBoundsException";
    private static final String ARGUMENT = "IllegalArgumentException";
    private static final String STATE = "IllegalStateException";
    private static final String UNSUPPORTED = "UnsupportedOperationException";
    private static final String NO_ELEMENT = "NoSuchElementException";
    private static final String ARITHMETIC = "ArithmeticException";

    private static final Map<String, List<String>> FACE = new TreeMap<>();

    static {
        FACE.put("int addFarm(int)", List.of(ARGUMENT, STATE));
        FACE.put("int addCow(int,int)", List.of(INDEX, ARGUMENT, STATE));
        FACE.put("int milkOf(int,int)", List.of(INDEX, ARGUMENT));
        FACE.put("int inTank(int)", List.of(INDEX));
        FACE.put("int pass(int)", List.of(ARGUMENT));
        FACE.put("int day()", List.of());
        FACE.put("int addVat(int)", List.of(ARGUMENT, STATE));
        FACE.put("int beginRound()", List.of(STATE));
        FACE.put("int visit(int)", List.of(INDEX, STATE));
        FACE.put("int endRound(int)", List.of(INDEX, STATE, UNSUPPORTED));
        FACE.put("int inTanker()", List.of());
        FACE.put("int inVat(int)", List.of(INDEX));
        FACE.put("int bestVat()", List.of(NO_ELEMENT));
        FACE.put("int close(int)", List.of(INDEX, UNSUPPORTED, STATE));
        FACE.put("int samples()", List.of());
        FACE.put("int farmOf(int)", List.of(INDEX));
        FACE.put("int litres(int)", List.of(INDEX));
        FACE.put("int grade(int,char)", List.of(INDEX, ARGUMENT, STATE));
        FACE.put("char gradeOf(int)", List.of(INDEX));
        FACE.put("int batches()", List.of());
        FACE.put("char stateOf(int)", List.of(INDEX));
        FACE.put("int share(int,int)", List.of(INDEX, NO_ELEMENT));
        FACE.put("int worth(int)", List.of(INDEX, UNSUPPORTED));
        FACE.put("int loss(int)", List.of(INDEX, UNSUPPORTED));
        FACE.put("long pay(int)", List.of(INDEX));
        FACE.put("long blame(int)", List.of(INDEX));
        FACE.put("long balanceBySamples(int)", List.of(INDEX));
        FACE.put("char wayOf(int)", List.of(INDEX));
        FACE.put("float spoiltShare()", List.of(ARITHMETIC));
        FACE.put("double meanPay()", List.of(ARITHMETIC));
    }

    public static void main(String[] args) {
        Check.due("modifiers of the class", "public final", Modifier.toString(MilkRound.class.getModifiers()));
        Check.due("the class above", Object.class, MilkRound.class.getSuperclass());
        Check.due("the methods that are not private", FACE, openMethods());
        for (Constructor<?> made : MilkRound.class.getDeclaredConstructors()) {
            Check.due("the constructor", "public MilkRound()", made.toString());
        }
        for (Field field : MilkRound.class.getDeclaredFields()) {
            Check.due(field + " is private", true, Modifier.isPrivate(field.getModifiers()));
        }
        for (Class<?> inside : MilkRound.class.getDeclaredClasses()) {
            Check.due(inside + " is private and static", "private static final",
                    Modifier.toString(inside.getModifiers()));
        }
        noPrivateMethodBearsAPublicName(MilkRound.class);
        Check.end();
    }

    private static Map<String, List<String>> openMethods() {
        Map<String, List<String>> open = new TreeMap<>();
        for (Method method : MilkRound.class.getDeclaredMethods()) {
            if (!Modifier.isPrivate(method.getModifiers())) {
                Check.due("modifiers of " + method, "public", Modifier.toString(method.getModifiers()));
                open.put(signature(method), Arrays.stream(method.getExceptionTypes()).map(Class::getSimpleName)
                        .toList());
            }
        }
        return open;
    }

    private static String signature(Method method) {
        return method.getReturnType() + " " + method.getName() + Arrays.stream(method.getParameterTypes())
                .map(Class::getName).collect(Collectors.joining(",", "(", ")"));
    }

    private static void noPrivateMethodBearsAPublicName(Class<?> type) {
        for (Method method : type.getDeclaredMethods()) {
            boolean named = FACE.keySet().stream().anyMatch(each -> each.contains(" " + method.getName() + "("));
            if (Modifier.isPrivate(method.getModifiers()) && named) {
                Check.due("the name of " + method, "a name that no public method bears", method.getName());
            }
        }
        for (Class<?> inside : type.getDeclaredClasses()) {
            noPrivateMethodBearsAPublicName(inside);
        }
    }
}
