import java.lang.reflect.Constructor;
import java.lang.reflect.Field;
import java.lang.reflect.Method;
import java.lang.reflect.Modifier;
import java.util.Arrays;
import java.util.TreeSet;

/** The public face of the document, and what of LANGUAGE.md can be seen in the compiled class. */
final class FaceTest {
    private static final String INDEX = " throws IndexOutOfBoundsException";
    private static final String ARGUMENT = " throws IllegalArgumentException";
    private static final String BOTH = INDEX + ", IllegalArgumentException";

    private static final String[] FACE = {
        "int part(int)" + ARGUMENT,
        "boolean maker(int, int)" + ARGUMENT,
        "boolean value(int, int, long, long, int)" + BOTH,
        "long told(int, int, int)" + INDEX,
        "int rule()",
        "boolean ask(int, int, int)" + BOTH,
        "int alternates(int, int)" + INDEX,
        "int search(int, long, long, long, long)" + BOTH,
        "int found(int)",
        "boolean price(int, int, long, int)" + BOTH,
        "boolean rate(int, long)" + BOTH,
        "boolean pack(int, int)" + BOTH,
        "boolean stock(int, int)" + BOTH,
        "boolean life(int, long, int)" + BOTH,
        "int state(int, long)" + INDEX,
        "long cost(int, int)" + BOTH,
        "int best(int, int)" + BOTH,
        "int choose(int, int, int, long)" + BOTH,
        "int buy(int, int, int, long)" + BOTH,
        "int derate(int, int, long, long, int)" + BOTH,
    };

    public static void main(String[] args) {
        theClass();
        theMethods();
        theFields();
        theClassesInside();
        Check.end();
    }

    private static void theClass() {
        int modifiers = PartBook.class.getModifiers();
        Check.is("public and final", Modifier.isPublic(modifiers) && Modifier.isFinal(modifiers));
        Constructor<?>[] made = PartBook.class.getDeclaredConstructors();
        Check.same("constructors", made.length, 1);
        Check.is("public constructor", Modifier.isPublic(made[0].getModifiers()));
        Check.same("its parameters", made[0].getParameterCount(), 0);
        Check.is("no package", PartBook.class.getPackageName().isEmpty());
    }

    private static void theMethods() {
        TreeSet<String> due = new TreeSet<>(Arrays.asList(FACE));
        TreeSet<String> names = new TreeSet<>();
        for (Method method : PartBook.class.getDeclaredMethods()) {
            if (Modifier.isPublic(method.getModifiers())) {
                String told = tell(method);
                Check.is("in the document: " + told, due.remove(told));
                names.add(method.getName());
            } else {
                Check.is("private: " + tell(method), Modifier.isPrivate(method.getModifiers()));
            }
        }
        Check.is("not there: " + due, due.isEmpty());
        for (Method method : PartBook.class.getDeclaredMethods()) {
            Check.is("a public name: " + tell(method),
                    Modifier.isPublic(method.getModifiers()) || !names.contains(method.getName()));
        }
    }

    private static String tell(Method method) {
        StringBuilder text = new StringBuilder();
        text.append(method.getReturnType().getSimpleName()).append(' ').append(method.getName());
        text.append('(').append(names(method.getParameterTypes())).append(')');
        if (method.getExceptionTypes().length > 0) {
            text.append(" throws ").append(names(method.getExceptionTypes()));
        }
        return text.toString();
    }

    private static String names(Class<?>[] types) {
        StringBuilder text = new StringBuilder();
        for (Class<?> type : types) {
            text.append(text.length() == 0 ? "" : ", ").append(type.getSimpleName());
        }
        return text.toString();
    }

    private static void theFields() {
        for (Field field : PartBook.class.getDeclaredFields()) {
            int modifiers = field.getModifiers();
            if (field.getName().equals("NONE")) {
                Check.is("NONE is a public int constant", Modifier.isPublic(modifiers)
                        && Modifier.isStatic(modifiers) && Modifier.isFinal(modifiers)
                        && field.getType() == int.class);
            } else {
                Check.is("private: " + field.getName(), Modifier.isPrivate(modifiers));
                Check.is("static is final: " + field.getName(),
                        !Modifier.isStatic(modifiers) || Modifier.isFinal(modifiers));
            }
        }
    }

    private static void theClassesInside() {
        Class<?>[] inside = PartBook.class.getDeclaredClasses();
        Check.is("at most twelve classes", inside.length < 12);
        for (Class<?> one : inside) {
            int modifiers = one.getModifiers();
            Check.is("static, not public: " + one, Modifier.isStatic(modifiers)
                    && !Modifier.isPublic(modifiers) && !Modifier.isProtected(modifiers));
        }
    }
}
