import java.lang.reflect.Constructor;
import java.lang.reflect.Field;
import java.lang.reflect.Method;
import java.lang.reflect.Modifier;
import java.util.Set;
import java.util.TreeSet;

/** The public face as the document writes it, and nothing else that can be seen (LANGUAGE.md, 1 and 5). */
public final class FaceTest {
    private static final Check CHECK = new Check();
    private static final Set<String> FACE = Set.of(
            "boolean set(int long)", "boolean put(int long)", "boolean interrupt(int int)", "int run(int)",
            "long register(int)", "long word(int)", "int state(int)");

    public static void main(String[] args) {
        theClass();
        methods();
        fields(LongMachine.class, true);
        for (Class<?> inside : LongMachine.class.getDeclaredClasses()) {
            CHECK.isTrue(inside + " is static", Modifier.isStatic(inside.getModifiers()));
            CHECK.isTrue(inside + " is not public", !isOpen(inside.getModifiers()));
            fields(inside, false);
        }
        CHECK.end();
    }

    private static boolean isOpen(int modifiers) {
        return Modifier.isPublic(modifiers) || Modifier.isProtected(modifiers);
    }

    private static void theClass() {
        int modifiers = LongMachine.class.getModifiers();
        CHECK.isTrue("public", Modifier.isPublic(modifiers));
        CHECK.isTrue("final", Modifier.isFinal(modifiers));
        CHECK.is("no package", LongMachine.class.getPackageName().length(), 0);
        Constructor<?>[] constructors = LongMachine.class.getDeclaredConstructors();
        CHECK.is("constructors", constructors.length, 1);
        CHECK.isTrue("a public one", Modifier.isPublic(constructors[0].getModifiers()));
        CHECK.is("its parameters", constructors[0].getParameterCount(), 0);
    }

    private static String told(Method method) {
        StringBuilder text = new StringBuilder(method.getReturnType() + " " + method.getName() + "(");
        for (Class<?> type : method.getParameterTypes()) {
            text.append(text.charAt(text.length() - 1) == '(' ? "" : " ").append(type);
        }
        return text.append(')').toString();
    }

    private static void methods() {
        Set<String> found = new TreeSet<>();
        Set<String> names = new TreeSet<>();
        for (Method method : LongMachine.class.getDeclaredMethods()) {
            if (Modifier.isPrivate(method.getModifiers())) {
                names.add(method.getName());
            } else {
                found.add(told(method));
                CHECK.isTrue(method + " is public", Modifier.isPublic(method.getModifiers()));
                CHECK.isTrue(method + " is not static", !Modifier.isStatic(method.getModifiers()));
            }
        }
        CHECK.isTrue("the methods are " + found, found.equals(FACE));
        for (String method : FACE) {
            String name = method.substring(method.indexOf(' ') + 1, method.indexOf('('));
            CHECK.isTrue("no private method is named " + name, !names.contains(name));
        }
    }

    private static void fields(Class<?> type, boolean hidden) {
        int own = 0;
        for (Field field : type.getDeclaredFields()) {
            int modifiers = field.getModifiers();
            boolean isStatic = Modifier.isStatic(modifiers);
            own += isStatic ? 0 : 1;
            CHECK.isTrue(field + " is final, if it is static", !isStatic || Modifier.isFinal(modifiers));
            CHECK.isTrue(field + " is private", !hidden || Modifier.isPrivate(modifiers));
        }
        CHECK.isTrue(type + " has " + own + " fields", own <= 20);
    }
}
