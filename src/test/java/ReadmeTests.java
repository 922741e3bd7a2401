import java.lang.reflect.Method;
import java.lang.reflect.Modifier;
import java.net.URI;
import java.nio.charset.StandardCharsets;
import java.nio.file.Files;
import java.nio.file.Path;
import java.util.ArrayList;
import java.util.List;
import java.util.Set;
import java.util.TreeSet;
import javax.tools.JavaCompiler;
import javax.tools.JavaFileObject;
import javax.tools.SimpleJavaFileObject;
import javax.tools.ToolProvider;

/** README.md tells of each method and each exception, and its examples answer what stands behind them. */
public final class ReadmeTests {
    private static int checks;
    private static int wrong;

    public static void main(String[] args) throws Exception {
        String text = Files.readString(Path.of("README.md"), StandardCharsets.UTF_8);
        Set<String> exceptions = new TreeSet<>();
        for (Method method : Mutagenry.class.getDeclaredMethods()) {
            if (Modifier.isPublic(method.getModifiers())) {
                due(text.contains(method.getName() + "("), "tells of " + method.getName());
                for (Class<?> exception : method.getExceptionTypes()) {
                    exceptions.add(exception.getSimpleName());
                }
            }
        }
        for (String exception : exceptions) {
            due(text.contains("`" + exception + "`"), "tells of " + exception);
        }
        due(text.contains(".ci/run"), "tells how its tests are run");
        runExamples(examples(text));
        System.out.println("readme: " + checks + " checks, " + wrong + " wrong");
        if (wrong != 0) {
            System.exit(1);
        }
    }

    static void due(boolean is, String what) {
        checks++;
        if (!is) {
            wrong++;
            System.out.println("README.md: " + what);
        }
    }

    /** What the examples' own program calls. */
    public static void answers(String call, Object got, String want) {
        due(String.valueOf(got).equals(want), call + " answered " + got + ", there stands " + want);
    }

    private static List<String> examples(String text) {
        List<String> found = new ArrayList<>();
        boolean isJava = false;
        for (String line : text.split("\n")) {
            if (line.startsWith("```")) {
                isJava = line.equals("```java");
            } else if (isJava) {
                found.add(line);
            }
        }
        return found;
    }

    private static void runExamples(List<String> lines) throws Exception {
        StringBuilder program = new StringBuilder("public final class Examples {\n    public static void run() {\n");
        int told = 0;
        for (String line : lines) {
            int end = line.indexOf(';');
            int answer = line.indexOf("// ");
            if (answer < 0) {
                program.append(line).append('\n');
            } else {
                String call = line.substring(0, end);
                program.append("ReadmeTests.answers(\"").append(call).append("\", ").append(call).append(", \"")
                        .append(line.substring(answer + 3).trim()).append("\");\n");
                told++;
            }
        }
        program.append("    }\n}\n");
        due(told > 40, "has examples with answers");
        Path build = Files.createTempDirectory("readme");
        due(compile(program.toString(), build), "its examples compile");
        Loader loader = new Loader(Files.readAllBytes(build.resolve("Examples.class")));
        loader.loadClass("Examples").getMethod("run").invoke(null);
        Files.delete(build.resolve("Examples.class"));
        Files.delete(build);
    }

    private static boolean compile(String program, Path build) {
        JavaCompiler compiler = ToolProvider.getSystemJavaCompiler();
        JavaFileObject source = new SimpleJavaFileObject(URI.create("string:///Examples.java"),
                JavaFileObject.Kind.SOURCE) {
            @Override
            public CharSequence getCharContent(boolean isLenient) {
                return program;
            }
        };
        return compiler.getTask(null, null, null, List.of("-proc:none", "-d", build.toString(), "-cp",
                System.getProperty("java.class.path")), null, List.of(source)).call();
    }

    private static final class Loader extends ClassLoader {
        private final byte[] code;

        Loader(byte[] itsCode) {
            super(ReadmeTests.class.getClassLoader());
            code = itsCode;
        }

        @Override
        protected Class<?> findClass(String name) {
            return defineClass(name, code, 0, code.length);
        }
    }
}
