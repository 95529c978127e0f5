import java.io.IOException;
import java.lang.reflect.Method;
import java.lang.reflect.Modifier;
import java.nio.file.Files;
import java.nio.file.Path;
import java.util.List;
import java.util.regex.Matcher;
import java.util.regex.Pattern;

/**
 * Prints a test, ReadmeRun, that runs the examples of README.md: what stands there behind // is what
 * the call is to answer, or to throw. Ends with exit code 1 if a method is not told of at all.
 */
public final class ReadmeExamples {
    /** A statement and what it answers; what stands behind a colon only explains. */
    private static final Pattern TOLD = Pattern.compile("(?:(int \\w+) = )?(\\S.*);\\s+// (.*?)(?:: .*)?");

    private static final StringBuilder statements = new StringBuilder();
    private static final StringBuilder methods = new StringBuilder();
    private static int examples;

    public static void main(String[] args) throws IOException {
        List<String> page = Files.readAllLines(Path.of(args[0]));
        if (!tellsOfAll(String.join("\n", page))) {
            System.exit(1);
        }
        takeBlocks(page);
        print();
    }

    private static boolean tellsOfAll(String page) {
        boolean all = true;
        for (Method method : ProofDesk.class.getDeclaredMethods()) {
            boolean told = Pattern.compile("\\b" + method.getName() + "\\(").matcher(page).find();
            if (Modifier.isPublic(method.getModifiers()) && !told) {
                System.err.println(method.getName() + "() is not told of");
                all = false;
            }
        }
        return all;
    }

    /** A block that begins with static is one of methods; all others are one program. */
    private static void takeBlocks(List<String> page) {
        boolean inside = false;
        boolean first = false;
        boolean ofMethods = false;
        for (String line : page) {
            if (line.startsWith("```")) {
                inside = line.equals("```java");
                first = inside;
            } else if (inside) {
                ofMethods = first ? line.startsWith("static ") : ofMethods;
                first = false;
                if (ofMethods) {
                    methods.append("    ").append(line).append('\n');
                } else {
                    statements.append(statement(line));
                }
            }
        }
    }

    private static String statement(String line) {
        Matcher told = TOLD.matcher(line);
        if (!told.matches()) {
            return "        " + line + "\n";
        }
        examples++;
        String call = told.group(2);
        String check = "        told(\"" + line.replace("\\", "\\\\").replace("\"", "\\\"") + "\", ";
        if (told.group(1) != null) {
            String name = told.group(1).substring("int ".length());
            return "        int " + name + " = " + call + ";\n" + check + name + ", \"" + told.group(3) + "\");\n";
        }
        return check + "() -> " + call + ", \"" + told.group(3) + "\");\n";
    }

    private static void print() {
        System.out.print("public final class ReadmeRun extends Checks {\n"
                + "    interface Answer {\n"
                + "        Object get();\n"
                + "    }\n\n"
                + "    static void told(String line, Object got, String want) {\n"
                + "        same(line, String.valueOf(got), want);\n"
                + "    }\n\n"
                + "    static void told(String line, Answer call, String want) {\n"
                + "        String got;\n"
                + "        try {\n"
                + "            got = String.valueOf(call.get());\n"
                + "        } catch (RuntimeException e) {\n"
                + "            got = \"throws \" + e.getClass().getSimpleName();\n"
                + "        }\n"
                + "        same(line, got, want);\n"
                + "    }\n\n"
                + methods
                + "\n    public static void main(String[] args) {\n"
                + "        part = \"README.md\";\n"
                + statements
                + "        holds(\"that there are examples\", " + examples + " > 0);\n"
                + "        finish(\"README.md\");\n"
                + "    }\n"
                + "}\n");
    }
}
