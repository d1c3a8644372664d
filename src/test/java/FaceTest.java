import java.io.IOException;
import java.lang.reflect.Constructor;
import java.lang.reflect.Field;
import java.lang.reflect.Method;
import java.lang.reflect.Modifier;
import java.nio.file.Files;
import java.nio.file.Path;
import java.util.Arrays;
import java.util.HashSet;
import java.util.Set;
import java.util.TreeSet;

/** The public face of the document, and those rules of LANGUAGE.md that can be seen from outside. */
final class FaceTest {
    private static final Set<String> FACE = Set.of(
            "boolean put(int,long)",
            "void scrap()",
            "int route(boolean)",
            "int length()",
            "int at(int) throws IndexOutOfBoundsException",
            "int tick(int) throws IllegalArgumentException",
            "int rule(int,int,int,int,boolean) throws IllegalArgumentException",
            "int forget(int) throws IllegalArgumentException",
            "int flows()",
            "int flow(int,int) throws IndexOutOfBoundsException,IllegalArgumentException",
            "int bindings(int)");

    private static final String[] NOT_IN_THE_LANGUAGE = {"import ", "package ", "->", "::", "synchronized",
        "assert ", "finally", "volatile", "transient", "native", "Exact(", "System.out", "System.nanoTime",
        "Thread", "Random", "hashCode", "toString", "getMessage", "NaN", "Object", "while (true)", "for (;;)"};

    private final Check check = new Check();

    private FaceTest() {
    }

    public static void main(String[] args) throws IOException {
        FaceTest test = new FaceTest();
        test.theClass();
        test.methods();
        test.fields();
        test.classesInside();
        test.words();
        test.check.end();
    }

    private void theClass() {
        Class<?> face = PortTranslator.class;
        check.due("public", Modifier.isPublic(face.getModifiers()), true);
        check.due("final", Modifier.isFinal(face.getModifiers()), true);
        check.due("without a package", face.getPackageName().isEmpty(), true);
        check.due("of Object alone", face.getSuperclass() == Object.class, true);
        check.due("without interfaces", face.getInterfaces().length, 0);
        Constructor<?>[] constructors = face.getDeclaredConstructors();
        check.due("constructors", constructors.length, 1);
        check.due("a public one", Modifier.isPublic(constructors[0].getModifiers()), true);
        check.due("without parameters", constructors[0].getParameterCount(), 0);
        check.due("that throws nothing", constructors[0].getExceptionTypes().length, 0);
    }

    private void methods() {
        Set<String> open = new TreeSet<>();
        Set<String> names = new HashSet<>();
        for (Method method : PortTranslator.class.getDeclaredMethods()) {
            if (!Modifier.isPrivate(method.getModifiers())) {
                open.add(told(method));
                names.add(method.getName());
                check.due(method + " is of the face", FACE.contains(told(method)), true);
            }
        }
        check.due("the methods " + open, open.equals(FACE), true);
        for (Method method : PortTranslator.class.getDeclaredMethods()) {
            if (Modifier.isPrivate(method.getModifiers())) {
                check.due(method + " has a public one's name", names.contains(method.getName()), false);
            }
        }
    }

    private static String told(Method method) {
        String told = method.getReturnType() + " " + method.getName() + "("
                + names(method.getParameterTypes()) + ")";
        String thrown = names(method.getExceptionTypes());
        return thrown.isEmpty() ? told : told + " throws " + thrown;
    }

    private static String names(Class<?>[] types) {
        return String.join(",", Arrays.stream(types).map(Class::getSimpleName).toList());
    }

    private void fields() {
        for (Field field : PortTranslator.class.getDeclaredFields()) {
            int modifiers = field.getModifiers();
            boolean isNone = field.getName().equals("NONE");
            check.due(field + " is public", Modifier.isPublic(modifiers), isNone);
            check.due(field + " is private", Modifier.isPrivate(modifiers), !isNone);
            check.due(field + " is final", Modifier.isFinal(modifiers), true);
        }
        check.due("NONE", PortTranslator.NONE, -1);
    }

    private void classesInside() {
        Class<?>[] inside = PortTranslator.class.getDeclaredClasses();
        check.due("at most twelve classes", inside.length <= 11, true);
        for (Class<?> some : inside) {
            int modifiers = some.getModifiers();
            check.due(some + " is static", Modifier.isStatic(modifiers), true);
            check.due(some + " is not seen", Modifier.isPublic(modifiers) || Modifier.isProtected(modifiers), false);
            for (Field field : some.getDeclaredFields()) {
                check.due(field + " is final if it is static",
                        !Modifier.isStatic(field.getModifiers()) || Modifier.isFinal(field.getModifiers()), true);
            }
        }
    }

    /** The comments may say such words, so the code is looked at without them. */
    private void words() throws IOException {
        String code = Files.readString(Path.of("src/main/java/PortTranslator.java"))
                .replaceAll("(?s)/\\*.*?\\*/", "").replaceAll("//[^\n]*", "");
        for (String word : NOT_IN_THE_LANGUAGE) {
            check.due("the code has " + word, code.contains(word), false);
        }
    }
}
