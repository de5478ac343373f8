import java.io.IOException;
import java.io.StringWriter;
import java.lang.reflect.InvocationTargetException;
import java.net.URL;
import java.net.URLClassLoader;
import java.nio.file.Files;
import java.nio.file.Path;
import java.util.ArrayList;
import java.util.List;
import java.util.regex.Matcher;
import java.util.regex.Pattern;
import javax.tools.JavaCompiler;
import javax.tools.ToolProvider;

/**
 * The examples in README.md answer what README.md says: each block of Java is compiled as it stands there, and then line
 * by line with a look at what stands behind "->": an answer, or the exception that the call throws.
 */
public final class ReadmeTest {
    private static final Pattern CALL =
            Pattern.compile("(?:(int|long|char|boolean) (\\w+) = )?((?:\\(char\\) )?loom\\.(\\w+)\\(.*\\));\\s*(?://(.*))?");
    private static final Pattern DUE = Pattern.compile("\\s*-> ([-\\w]+)(?:[:;].*)?");
    private static final List<String> FACE = List.of("enumeration", "bean", "property", "list", "method", "function", "rule",
            "build", "diagnosis", "make", "put", "map", "get", "about", "count");

    private static final List<String> CALLED = new ArrayList<>();
    private static int looked;
    private static int wrong;

    /** Called by the examples, as they have been put together here. */
    public static void look(int line, String got, String due) {
        looked++;
        if (!got.equals(due)) {
            wrong++;
            System.out.println("README.md, line " + line + " answers " + got + ", it says " + due);
        }
    }

    private static void fault(int line, String what) {
        wrong++;
        System.out.println("README.md, line " + line + ": " + what);
    }

    public static void main(String[] args) throws Exception {
        List<String> lines = Files.readAllLines(Path.of("README.md"));
        StringBuilder told = new StringBuilder("public final class ReadmeExamples {\n");
        StringBuilder looking = new StringBuilder();
        int blocks = 0;
        boolean inside = false;
        for (int i = 0; i < lines.size(); i++) {
            String line = lines.get(i);
            if (!inside && line.equals("```java")) {
                inside = true;
                told.append("static void asItStands").append(blocks).append("() {\n");
                looking.append("public static void looking").append(blocks).append("() {\n");
                blocks++;
            } else if (inside && line.equals("```")) {
                inside = false;
                told.append("}\n");
                looking.append("}\n");
            } else if (inside) {
                told.append(line).append('\n');
                looking.append(looked(i + 1, line.trim())).append('\n');
            }
        }
        told.append(looking).append("}\n");
        run(told.toString(), blocks);
        for (String name : FACE) {
            if (!CALLED.contains(name)) {
                fault(0, "no example calls " + name);
            }
        }
        for (String name : List.of("IllegalArgumentException", "IllegalStateException", "UnsupportedOperationException",
                "IndexOutOfBoundsException")) {
            if (!CALLED.contains(name)) {
                fault(0, "no example throws " + name);
            }
        }
        if (!lines.toString().contains("`bash .ci/run`")) {
            fault(0, "it does not say how to run the tests");
        }
        System.out.println(blocks + " examples, " + looked + " looked at, " + wrong + " wrong");
        if (wrong != 0 || blocks == 0 || looked == 0) {
            System.exit(1);
        }
    }

    /** A line of an example with a look at its answer. */
    private static String looked(int number, String line) {
        if (line.isEmpty() || line.startsWith("//") || line.equals("BeanLoom loom = new BeanLoom();")) {
            return line;
        }
        Matcher call = CALL.matcher(line);
        if (!call.matches()) {
            fault(number, "no call of the loom, or several in one line");
            return line;
        }
        CALLED.add(call.group(4));
        Matcher due = DUE.matcher(call.group(5) == null ? "" : call.group(5));
        boolean answers = !call.group(4).equals("rule");
        if (!due.matches()) {
            if (answers) {
                fault(number, "it does not say what the call answers");
            }
            return line;
        }
        CALLED.add(due.group(1));
        String look = "ReadmeTest.look(" + number + ", ";
        String end = ", \"" + due.group(1) + "\");";
        if (call.group(1) != null) {
            return call.group(1) + " " + call.group(2) + " = " + call.group(3) + ";\n"
                    + look + "String.valueOf(" + call.group(2) + ")" + end;
        }
        String act = answers ? look + "String.valueOf(" + call.group(3) + ")" + end
                : call.group(3) + ";\n" + look + "\"nothing\"" + end;
        return "try {\n" + act + "\n} catch (RuntimeException e) {\n" + look + "e.getClass().getSimpleName()" + end + "\n}";
    }

    private static void run(String source, int blocks) throws IOException, ReflectiveOperationException {
        Path folder = Files.createTempDirectory("readme");
        Path file = folder.resolve("ReadmeExamples.java");
        Path made = folder.resolve("ReadmeExamples.class");
        Files.writeString(file, source);
        JavaCompiler compiler = ToolProvider.getSystemJavaCompiler();
        StringWriter words = new StringWriter();
        boolean good = compiler.getTask(words, null, null, List.of("--release", "17", "-cp",
                System.getProperty("java.class.path"), "-d", folder.toString()), null,
                compiler.getStandardFileManager(null, null, null).getJavaFileObjects(file)).call();
        if (!good) {
            fault(0, "an example does not compile: " + words);
        } else {
            try (URLClassLoader loader = new URLClassLoader(new URL[] {folder.toUri().toURL()})) {
                for (int block = 0; block < blocks; block++) {
                    loader.loadClass("ReadmeExamples").getMethod("looking" + block).invoke(null);
                }
            } catch (InvocationTargetException e) {
                fault(0, "an example throws " + e.getCause());
            }
        }
        Files.deleteIfExists(made);
        Files.delete(file);
        Files.delete(folder);
    }
}
