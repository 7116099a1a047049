import java.io.ByteArrayOutputStream;
import java.io.IOException;
import java.io.PrintStream;
import java.lang.reflect.Method;
import java.lang.reflect.Modifier;
import java.net.URL;
import java.net.URLClassLoader;
import java.nio.file.DirectoryStream;
import java.nio.file.Files;
import java.nio.file.Path;
import java.util.ArrayList;
import java.util.List;
import javax.tools.ToolProvider;

/** README.md holds what is so: its example answers as it says, and no call and no test is left out. */
public final class ReadmeTest {
    private static final Check CHECK = new Check();

    public static void main(String[] args) throws IOException, ReflectiveOperationException {
        String readme = Files.readString(Path.of("README.md"));
        eachCallIsNamed(readme);
        eachTestIsNamed(readme);
        theExampleAnswersAsItSays(exampleOf(readme));
        CHECK.finish("ReadmeTest");
    }

    private static void eachCallIsNamed(String readme) {
        for (Method method : LockQuorum.class.getDeclaredMethods()) {
            if (Modifier.isPublic(method.getModifiers())) {
                String name = method.getName();
                CHECK.is("README.md names " + name, readme.contains("`" + name + "`"), true);
            }
        }
    }

    private static void eachTestIsNamed(String readme) throws IOException {
        try (DirectoryStream<Path> tests = Files.newDirectoryStream(Path.of("src/test/java"), "*Test.java")) {
            for (Path test : tests) {
                String name = test.getFileName().toString().replace(".java", "");
                CHECK.is("README.md names " + name, readme.contains("`" + name + "`"), true);
            }
        }
    }

    private static String exampleOf(String readme) {
        String mark = "```java\n";
        int from = readme.indexOf(mark);
        int to = readme.indexOf("```\n", from + mark.length());
        boolean isThere = from >= 0 && to > from;
        CHECK.is("README.md has an example", isThere, true);
        return isThere ? readme.substring(from + mark.length(), to) : "";
    }

    /** Each line that prints tells what, between "// " and ":". */
    private static void theExampleAnswersAsItSays(String example) throws IOException, ReflectiveOperationException {
        List<String> due = new ArrayList<>();
        for (String line : example.split("\n")) {
            if (line.contains("println(")) {
                due.add(line.replaceAll("^.*// |:.*$", ""));
            }
        }
        CHECK.is("the example prints", due.isEmpty(), false);
        CHECK.is("what the example prints", List.of(outputOf(example).split("\\R")), due);
    }

    private static String outputOf(String example) throws IOException, ReflectiveOperationException {
        Path folder = Files.createTempDirectory("readme");
        Path source = folder.resolve("Example.java");
        Path compiled = folder.resolve("Example.class");
        try {
            Files.writeString(source, example);
            int code = ToolProvider.getSystemJavaCompiler().run(null, System.out, System.out, "-proc:none",
                    "-cp", System.getProperty("java.class.path"), "-d", folder.toString(), source.toString());
            CHECK.is("the exit code of the compiler", code, 0);
            return code == 0 ? outputOfClass(folder) : "";
        } finally {
            Files.deleteIfExists(source);
            Files.deleteIfExists(compiled);
            Files.deleteIfExists(folder);
        }
    }

    private static String outputOfClass(Path folder) throws IOException, ReflectiveOperationException {
        PrintStream before = System.out;
        ByteArrayOutputStream printed = new ByteArrayOutputStream();
        try (URLClassLoader loader = new URLClassLoader(new URL[] {folder.toUri().toURL()})) {
            System.setOut(new PrintStream(printed, true));
            loader.loadClass("Example").getMethod("main", String[].class).invoke(null, (Object) new String[0]);
        } finally {
            System.setOut(before);
        }
        return printed.toString();
    }
}
