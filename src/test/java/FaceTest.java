import java.lang.reflect.Constructor;
import java.lang.reflect.Field;
import java.lang.reflect.Method;
import java.lang.reflect.Modifier;
import java.util.Arrays;
import java.util.Set;
import java.util.TreeSet;

/** The public face has what the document names, and nothing else. */
final class FaceTest {
    private static final String INDEX = " throws IndexOutOfBoundsException";
    private static final String ARGUMENT = "IllegalArgumentException";
    private static final String STATE = "IllegalStateException";
    private static final String[] FACE = {
        "int addFeature(int) throws " + ARGUMENT + " " + STATE,
        "int addRule(int int int int int)" + INDEX + " " + ARGUMENT + " " + STATE,
        "boolean switchRule(int boolean)" + INDEX + " " + STATE,
        "int setPrice(int int int)" + INDEX + " " + ARGUMENT,
        "int addSurcharge(int int int int int)" + INDEX + " " + ARGUMENT + " " + STATE,
        "int addDefault(int int)" + INDEX + " " + STATE,
        "int dropDefaults()",
        "int choose(int int)" + INDEX + " " + STATE,
        "int withdraw(int)" + INDEX + " " + STATE,
        "int force(int int)" + INDEX + " " + STATE,
        "int takeDefaults()",
        "int finish()",
        "int reset()",
        "int features()",
        "int options(int)" + INDEX,
        "int rules()",
        "boolean isOn(int)" + INDEX,
        "int choices()",
        "int choiceAt(int)" + INDEX,
        "int chosen(int)" + INDEX,
        "int remaining(int)" + INDEX,
        "int offered(int)" + INDEX,
        "int count()",
        "int countByTrying()",
        "int nodes()",
        "int whyByRules(int int)" + INDEX + " " + STATE,
        "int whyByChoices(int int)" + INDEX + " " + STATE,
        "int price() throws " + STATE,
        "int leastPrice()",
        "int greatestPrice()",
        "int cheapest(int)" + INDEX,
        "int leastWith(int int)" + INDEX + " " + STATE,
    };

    private FaceTest() {
    }

    static void runAll() {
        Check.test("the face: the class and its constructor", FaceTest::theClass);
        Check.test("the face: the methods", FaceTest::theMethods);
        Check.test("the face: all else is private", FaceTest::allElseIsPrivate);
    }

    private static void theClass() {
        Class<?> face = ProductConfigurator.class;
        Check.equal(Modifier.PUBLIC | Modifier.FINAL, face.getModifiers());
        Constructor<?>[] constructors = face.getDeclaredConstructors();
        Check.equal(1, constructors.length);
        Check.equal(Modifier.PUBLIC, constructors[0].getModifiers());
        Check.equal(0, constructors[0].getParameterCount());
    }

    private static void theMethods() {
        Set<String> due = new TreeSet<>(Arrays.asList(FACE));
        Set<String> there = new TreeSet<>();
        for (Method method : ProductConfigurator.class.getDeclaredMethods()) {
            if (!Modifier.isPrivate(method.getModifiers())) {
                there.add(told(method));
            }
        }
        Check.equal(due, there);
    }

    private static void allElseIsPrivate() {
        Class<?> face = ProductConfigurator.class;
        Set<String> open = new TreeSet<>();
        for (Method method : face.getDeclaredMethods()) {
            if (Modifier.isPublic(method.getModifiers())) {
                open.add(method.getName());
            }
        }
        for (Method method : face.getDeclaredMethods()) {
            boolean isPrivate = Modifier.isPrivate(method.getModifiers());
            Check.equal(isPrivate, !open.contains(method.getName()));
        }
        for (Field field : face.getDeclaredFields()) {
            int modifiers = field.getModifiers();
            Check.equal(true, Modifier.isPrivate(modifiers));
            Check.equal(true, Modifier.isFinal(modifiers) || !Modifier.isStatic(modifiers));
        }
        for (Class<?> inside : face.getDeclaredClasses()) {
            int modifiers = inside.getModifiers();
            Check.equal(false, Modifier.isPublic(modifiers) || Modifier.isProtected(modifiers));
        }
    }

    private static String told(Method method) {
        StringBuilder text = new StringBuilder();
        text.append(method.getReturnType().getSimpleName()).append(' ');
        text.append(method.getName()).append('(').append(names(method.getParameterTypes()));
        text.append(')');
        if (method.getExceptionTypes().length > 0) {
            text.append(" throws ").append(names(method.getExceptionTypes()));
        }
        return text.toString();
    }

    private static String names(Class<?>[] types) {
        StringBuilder text = new StringBuilder();
        for (Class<?> type : types) {
            text.append(text.length() == 0 ? "" : " ").append(type.getSimpleName());
        }
        return text.toString();
    }
}
