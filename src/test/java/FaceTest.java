import java.io.IOException;
import java.lang.reflect.Constructor;
import java.lang.reflect.Field;
import java.lang.reflect.Method;
import java.lang.reflect.Modifier;
import java.util.TreeSet;

/** The public face of the document, and what of LANGUAGE.md can be seen in the compiled class. */
final class FaceTest {
    /** So that a face that could not be read does not pass. */
    private static final int CALLS = 20;

    public static void main(String[] args) throws IOException {
        theClass();
        theMethods();
        theConstants();
        theFields();
        theClassesInside();
        Check.end();
    }

    private static void theClass() {
        int modifiers = PartBook.class.getModifiers();
        Check.is("public and final", Modifier.isPublic(modifiers) && Modifier.isFinal(modifiers));
        Constructor<?>[] made = PartBook.class.getDeclaredConstructors();
        Check.same("constructors", made.length, 1);
        Check.is("public constructor", Modifier.isPublic(made[0].getModifiers()));
        Check.same("its parameters", made[0].getParameterCount(), 0);
        Check.is("no package", PartBook.class.getPackageName().isEmpty());
    }

    private static void theMethods() throws IOException {
        TreeSet<String> due = new TreeSet<>();
        for (Face.Call call : Face.calls()) {
            due.add(call.told());
        }
        Check.same("calls of the document", due.size(), CALLS);
        TreeSet<String> names = new TreeSet<>();
        for (Method method : PartBook.class.getDeclaredMethods()) {
            if (Modifier.isPublic(method.getModifiers())) {
                String told = tell(method);
                Check.is("in the document: " + told, due.remove(told));
                names.add(method.getName());
            } else {
                Check.is("private: " + tell(method), Modifier.isPrivate(method.getModifiers()));
            }
        }
        Check.is("not there: " + due, due.isEmpty());
        for (Method method : PartBook.class.getDeclaredMethods()) {
            Check.is("a public name: " + tell(method),
                    Modifier.isPublic(method.getModifiers()) || !names.contains(method.getName()));
        }
    }

    private static String tell(Method method) {
        StringBuilder text = new StringBuilder();
        text.append(method.getReturnType().getSimpleName()).append(' ').append(method.getName());
        text.append('(').append(names(method.getParameterTypes())).append(')');
        if (method.getExceptionTypes().length > 0) {
            text.append(" throws ").append(names(method.getExceptionTypes()));
        }
        return text.toString();
    }

    private static String names(Class<?>[] types) {
        StringBuilder text = new StringBuilder();
        for (Class<?> type : types) {
            text.append(text.length() == 0 ? "" : ", ").append(type.getSimpleName());
        }
        return text.toString();
    }

    private static void theConstants() throws IOException {
        TreeSet<String> told = new TreeSet<>();
        for (Field field : PartBook.class.getFields()) {
            told.add(field.getType().getSimpleName() + " " + field.getName() + " = " + valueOf(field));
        }
        Check.same("the constants", told.toString(), new TreeSet<>(Face.constants()).toString());
    }

    private static String valueOf(Field field) {
        try {
            return String.valueOf(field.get(null));
        } catch (IllegalAccessException e) {
            return "not to be read";
        }
    }

    private static void theFields() {
        for (Field field : PartBook.class.getDeclaredFields()) {
            int modifiers = field.getModifiers();
            boolean constant = Modifier.isStatic(modifiers) && Modifier.isFinal(modifiers);
            Check.is("private, or a constant: " + field.getName(), Modifier.isPrivate(modifiers)
                    || constant && Modifier.isPublic(modifiers));
            Check.is("static is final: " + field.getName(), constant || !Modifier.isStatic(modifiers));
        }
    }

    private static void theClassesInside() {
        Class<?>[] inside = PartBook.class.getDeclaredClasses();
        Check.is("at most twelve classes", inside.length < 12);
        for (Class<?> one : inside) {
            int modifiers = one.getModifiers();
            Check.is("static, not public: " + one, Modifier.isStatic(modifiers)
                    && !Modifier.isPublic(modifiers) && !Modifier.isProtected(modifiers));
        }
    }
}
