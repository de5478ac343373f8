import java.io.IOException;
import java.nio.file.Files;
import java.nio.file.Path;
import java.util.List;
import java.util.regex.Matcher;
import java.util.regex.Pattern;

/** Looks through the source for what LANGUAGE.md leaves out, as far as words alone can tell. */
public final class LanguageTest {
    private static final String[] NEVER = {"->", "::", "\\bsynchronized\\b", "\\bassert\\b", "\\bfinally\\b",
        "\\btry\\b", "\\bcatch\\b", "\\brecord\\b", "\\bdouble\\b", "\\bfloat\\b", "\\bDouble\\.", "\\bFloat\\.",
        "Exact\\b", "\\bequals\\b", "\\bhashCode\\b", "\\btoString\\b", "\\bSystem\\b", "\\bpackage\\b", "\\bpublic static [^f]",
        "\\bwhile \\(true\\)", "for \\(;;\\)", "^\\s*static \\{", "\\bprotected\\b", "\\binstanceof\\b"};
    private static final List<String> LIBRARY = List.of("IllegalArgumentException", "IllegalStateException",
        "UnsupportedOperationException", "IndexOutOfBoundsException", "String", "Arrays", "Math");

    private static int wrong;

    private static void look(boolean good, String what) {
        if (!good) {
            wrong++;
            System.out.println(what);
        }
    }

    public static void main(String[] args) throws IOException {
        String source = Files.readString(Path.of("src/main/java/BeanLoom.java"));
        String code = source.replaceAll("(?s)/\\*.*?\\*/", "").replaceAll("//[^\n]*", "").replaceAll("\"[^\"\n]*\"", "\"\"");
        int number = 0;
        for (String line : code.split("\n")) {
            number++;
            for (String never : NEVER) {
                look(!Pattern.compile(never).matcher(line).find(), "line " + number + " has " + never + ": " + line.trim());
            }
        }
        Matcher imported = Pattern.compile("(?m)^import (.*);").matcher(code);
        while (imported.find()) {
            look(imported.group(1).equals("java.util.Arrays"), "import of " + imported.group(1));
        }
        Matcher word = Pattern.compile("\\b[A-Z][a-z]\\w*").matcher(code.replaceAll("(?m)^import .*", ""));
        while (word.find()) {
            String name = word.group();
            boolean own = name.equals("BeanLoom") || Pattern.compile("class " + name + "\\b").matcher(code).find();
            look(own || LIBRARY.contains(name), name + " is not in the library");
        }
        for (char sign : source.toCharArray()) {
            look(sign < 127, "a sign beyond 127");
        }
        methodLengths(code);
        System.out.println(number + " lines, " + wrong + " wrong");
        if (wrong != 0) {
            System.exit(1);
        }
    }

    private static void methodLengths(String code) {
        int start = 0;
        int number = 0;
        for (String line : code.split("\n")) {
            number++;
            if (line.matches("( {4}| {8})[a-zA-Z].*[({,] *") && !line.contains(" class ")) {
                start = number;
            }
            if (line.matches("( {4}| {8})\\}") && start > 0) {
                look(number - start < 60, "a method of " + (number - start) + " lines ends in line " + number);
                start = 0;
            }
        }
    }
}
