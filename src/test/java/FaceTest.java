import java.lang.reflect.Constructor;
import java.lang.reflect.Field;
import java.lang.reflect.Method;
import java.lang.reflect.Modifier;
import java.nio.file.Files;
import java.nio.file.Path;
import java.util.ArrayList;
import java.util.HashSet;
import java.util.List;
import java.util.Set;
import java.util.TreeSet;

/** The public face is that of the document, signature by signature, and nothing else can be seen from outside. */
public final class FaceTest {
    private static final Check CHECK = new Check("FaceTest");

    public static void main(String[] args) throws Exception {
        List<String> due = faceOfTheDocument();
        CHECK.same("signatures in the document", due.size(), 54);
        CHECK.same("the face", new TreeSet<>(faceOfTheClass()), new TreeSet<>(due));
        CHECK.same("the class", Modifier.toString(Exactdoubles.class.getModifiers()), "public final");
        nothingElse();
        namesOfPrivates();
        CHECK.finish();
    }

    private static List<String> faceOfTheDocument() throws Exception {
        String text = Files.readString(Path.of("../shared/DOC.md"));
        String face = text.substring(text.indexOf("```java") + 7);
        List<String> signatures = new ArrayList<>();
        for (String line : face.substring(0, face.indexOf("```")).split("\n")) {
            if (line.startsWith("    public ")) {
                signatures.add(withoutNames(line.trim()));
            }
        }
        return signatures;
    }

    private static String withoutNames(String signature) {
        return signature.replaceAll("(int|boolean|long|String) \\w+(?=[,)])", "$1").replace(";", "");
    }

    private static List<String> faceOfTheClass() {
        List<String> signatures = new ArrayList<>();
        for (Constructor<?> constructor : Exactdoubles.class.getConstructors()) {
            signatures.add("public Exactdoubles(" + names(constructor.getParameterTypes()) + ")");
        }
        for (Method method : Exactdoubles.class.getDeclaredMethods()) {
            if (Modifier.isPublic(method.getModifiers())) {
                Class<?>[] thrown = method.getExceptionTypes();
                signatures.add("public " + method.getReturnType().getSimpleName() + " " + method.getName()
                    + "(" + names(method.getParameterTypes()) + ")" + (thrown.length == 0 ? "" : " throws " + names(thrown)));
            }
        }
        return signatures;
    }

    private static String names(Class<?>[] types) {
        List<String> names = new ArrayList<>();
        for (Class<?> type : types) {
            names.add(type.getSimpleName());
        }
        return String.join(", ", names);
    }

    private static void nothingElse() {
        for (Field field : Exactdoubles.class.getDeclaredFields()) {
            CHECK.isTrue(field + " is private", Modifier.isPrivate(field.getModifiers()));
        }
        for (Method method : Exactdoubles.class.getDeclaredMethods()) {
            CHECK.isTrue(method + " is public or private", Modifier.isPublic(method.getModifiers())
                || Modifier.isPrivate(method.getModifiers()) || method.isSynthetic());
        }
        CHECK.same("constructors", Exactdoubles.class.getDeclaredConstructors().length, 1);
        for (Class<?> inside : Exactdoubles.class.getDeclaredClasses()) {
            int kind = inside.getModifiers();
            CHECK.isTrue(inside + " is private, or static and seen in its package alone", Modifier.isPrivate(kind)
                || Modifier.isStatic(kind) && !Modifier.isPublic(kind) && !Modifier.isProtected(kind));
        }
    }

    private static void namesOfPrivates() {
        Set<String> open = new HashSet<>();
        for (Method method : Exactdoubles.class.getDeclaredMethods()) {
            if (Modifier.isPublic(method.getModifiers())) {
                open.add(method.getName());
            }
        }
        List<Class<?>> classes = new ArrayList<>(List.of(Exactdoubles.class.getDeclaredClasses()));
        classes.add(Exactdoubles.class);
        for (Class<?> one : classes) {
            for (Method method : one.getDeclaredMethods()) {
                CHECK.isTrue(method + " has a name of its own",
                    !Modifier.isPrivate(method.getModifiers()) || !open.contains(method.getName()));
            }
        }
    }
}
