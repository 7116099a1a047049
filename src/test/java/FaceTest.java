import java.io.IOException;
import java.lang.reflect.Constructor;
import java.lang.reflect.Field;
import java.lang.reflect.Method;
import java.lang.reflect.Modifier;
import java.nio.file.Files;
import java.nio.file.Path;
import java.util.ArrayList;
import java.util.List;
import java.util.TreeSet;
import java.util.Set;

/** The face is the document's, and the class keeps to those rules of LANGUAGE.md that can be seen from outside. */
public final class FaceTest {
    private static final Check CHECK = new Check();

    public static void main(String[] args) throws IOException {
        Path shared = Path.of(args[0]);
        theFaceIsTheDocuments(Files.readAllLines(shared.resolve("DOC.md")));
        nothingElseIsSeen();
        noNameOfTheFaceIsHidden();
        staticFieldsAreFinal();
        theSourceUsesOnlyWhatIsListed(Files.readString(Path.of("src/main/java/LockQuorum.java")));
        CHECK.finish("FaceTest");
    }

    private static void theFaceIsTheDocuments(List<String> document) {
        Set<String> due = new TreeSet<>();
        for (String line : document) {
            if (line.startsWith("    public ")) {
                due.add(line.strip().replace(";", "").replaceAll("(int|boolean) \\w+([,)])", "$1$2"));
            }
        }
        Set<String> found = new TreeSet<>();
        for (Method method : LockQuorum.class.getDeclaredMethods()) {
            if (Modifier.isPublic(method.getModifiers())) {
                found.add("public " + method.getReturnType() + " " + method.getName()
                        + signature(method.getParameterTypes(), method.getExceptionTypes()));
            }
        }
        for (Constructor<?> made : LockQuorum.class.getConstructors()) {
            found.add("public LockQuorum" + signature(made.getParameterTypes(), made.getExceptionTypes()));
        }
        CHECK.is("the methods and constructors that are public", found, due);
        CHECK.is("their number", found.size(), 42);
        CHECK.is("final", Modifier.isFinal(LockQuorum.class.getModifiers()), true);
    }

    private static String signature(Class<?>[] parameters, Class<?>[] exceptions) {
        String thrown = names(exceptions);
        return "(" + names(parameters) + ")" + (thrown.isEmpty() ? "" : " throws " + thrown);
    }

    private static String names(Class<?>[] classes) {
        List<String> names = new ArrayList<>();
        for (Class<?> each : classes) {
            names.add(each.getSimpleName());
        }
        return String.join(", ", names);
    }

    private static void nothingElseIsSeen() {
        for (Method method : LockQuorum.class.getDeclaredMethods()) {
            CHECK.is(method + " is public or private", isPublicOrPrivate(method.getModifiers()), true);
        }
        for (Field field : LockQuorum.class.getDeclaredFields()) {
            CHECK.is(field + " is private", Modifier.isPrivate(field.getModifiers()), true);
        }
        for (Class<?> inside : LockQuorum.class.getDeclaredClasses()) {
            CHECK.is(inside + " is static", Modifier.isStatic(inside.getModifiers()), true);
            CHECK.is(inside + " is not public", Modifier.isPublic(inside.getModifiers()), false);
        }
    }

    private static boolean isPublicOrPrivate(int modifiers) {
        return Modifier.isPublic(modifiers) || Modifier.isPrivate(modifiers);
    }

    private static void noNameOfTheFaceIsHidden() {
        Set<String> face = new TreeSet<>();
        for (Method method : LockQuorum.class.getMethods()) {
            face.add(method.getName());
        }
        for (Method method : LockQuorum.class.getDeclaredMethods()) {
            boolean isHidden = !Modifier.isPublic(method.getModifiers());
            CHECK.is(method + " bears a name of the face", isHidden && face.contains(method.getName()), false);
        }
        for (Class<?> inside : LockQuorum.class.getDeclaredClasses()) {
            for (Method method : inside.getDeclaredMethods()) {
                CHECK.is(method + " bears a name of the face", face.contains(method.getName()), false);
            }
        }
    }

    private static void staticFieldsAreFinal() {
        List<Class<?>> classes = new ArrayList<>(List.of(LockQuorum.class.getDeclaredClasses()));
        classes.add(LockQuorum.class);
        for (Class<?> each : classes) {
            for (Field field : each.getDeclaredFields()) {
                int modifiers = field.getModifiers();
                CHECK.is(field + " is final if it is static",
                        !Modifier.isStatic(modifiers) || Modifier.isFinal(modifiers), true);
            }
        }
    }

    private static void theSourceUsesOnlyWhatIsListed(String source) {
        String[] unwanted = {"catch", "finally", "synchronized", "assert ", "->", "::", "package ", "System.out",
            "Random", "Thread", "java.io", "java.time", "equals", "hashCode", "toString", "Exact", "static {"};
        for (String word : unwanted) {
            CHECK.is("the source holds " + word, source.contains(word), false);
        }
        Set<String> imports = new TreeSet<>();
        for (String line : source.split("\n")) {
            if (line.startsWith("import ")) {
                imports.add(line);
            }
        }
        CHECK.is("the imports", imports,
                Set.of("import java.util.Arrays;", "import java.util.NoSuchElementException;"));
    }
}
