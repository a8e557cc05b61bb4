import java.io.IOException;
import java.lang.reflect.Method;
import java.nio.file.Files;
import java.nio.file.Path;
import java.util.ArrayList;
import java.util.List;
import java.util.Map;
import java.util.TreeMap;
import java.util.TreeSet;
import java.util.regex.Matcher;
import java.util.regex.Pattern;

/**
 * README.md: its blocks of Java compile as they stand and answer what stands behind each call, and its table
 * has every call with all that it throws. To be run in the project's directory.
 */
public final class ReadmeTest {
    private static final Path PLACE = Path.of("build", "readme");
    /** A call with its answer behind it, such as: int line = studio.addLine('d', 0, 0); // 0: the first */
    private static final Pattern CALL = Pattern.compile(
        "\\s*(?:\\w+ (\\w+) = )?(studio\\.(\\w+)\\(.*\\));\\s*// (throws \\w+|[^:\\s]+)(?:: .*)?");
    private static final Pattern ROW = Pattern.compile("\\| `(\\w+)\\((.*)\\)` \\| (.*) \\|");
    private static final Pattern EXCEPTION = Pattern.compile("\\w+Exception");

    private static final TreeSet<String> shownAnswers = new TreeSet<>();
    private static final TreeSet<String> shownRefusals = new TreeSet<>();
    private static int wrong = 0;

    public static void main(String[] args) throws IOException, InterruptedException {
        List<String> lines = Files.readAllLines(Path.of("README.md"));
        runCalls(lines);
        compareTable(lines);
        findTests(lines);
        System.exit(wrong == 0 ? 0 : 1);
    }

    private static void runCalls(List<String> lines) throws IOException, InterruptedException {
        Files.createDirectories(PLACE);
        Path program = PLACE.resolve("ReadmeCalls.java");
        Files.write(program, program(lines));
        String classes = PLACE.toString();
        if (!ends("javac", "-d", classes, "src/main/java/CostStudio.java", program.toString())) {
            report("a block of Java does not compile");
        } else if (!ends("java", "-cp", classes, "ReadmeCalls")) {
            report("a call answers something else");
        }
    }

    private static boolean ends(String... command) throws IOException, InterruptedException {
        return new ProcessBuilder(command).inheritIO().start().waitFor() == 0;
    }

    /** Every block of Java becomes a method that compares each answer with the one behind the call. */
    private static List<String> program(List<String> lines) {
        List<String> program = new ArrayList<>(List.of(
            "public final class ReadmeCalls {",
            "static int wrong = 0;",
            "static void due(int line, Object answer, String want) {",
            "String text = answer instanceof Character ? \"'\" + answer + \"'\" : String.valueOf(answer);",
            "if (!text.equals(want)) { wrong++; System.out.println(\"README.md, line \" + line + \": \" + text); }",
            "}"));
        StringBuilder runs = new StringBuilder();
        boolean inside = false;
        for (int i = 0; i < lines.size(); i++) {
            String line = lines.get(i);
            if (line.startsWith("```")) {
                if (inside) {
                    program.add("}");
                }
                inside = line.equals("```java");
                if (inside) {
                    program.add("static void block" + i + "() {");
                    runs.append("block").append(i).append("(); ");
                }
            } else if (inside) {
                program.add(compared(i + 1, line));
            }
        }
        program.add("public static void main(String[] args) { " + runs + "System.exit(wrong == 0 ? 0 : 1); }");
        program.add("}");
        return program;
    }

    private static String compared(int number, String line) {
        Matcher call = CALL.matcher(line);
        if (!call.matches()) {
            if (line.contains("studio.") && line.contains("//")) {
                report("line " + number + " says no answer: " + line);
            }
            return line;
        }
        String due = "due(" + number + ", ";
        String want = ", \"" + call.group(4) + "\");";
        if (call.group(4).startsWith("throws ")) {
            shownRefusals.add(call.group(3) + " " + call.group(4));
            return "try { " + call.group(2) + "; " + due + "\"an answer\"" + want + " } catch (RuntimeException e) { "
                + due + "\"throws \" + e.getClass().getSimpleName()" + want + " }";
        }
        shownAnswers.add(call.group(3));
        if (call.group(1) == null) {
            return due + call.group(2) + want;
        }
        return line.substring(0, line.indexOf("//")) + due + call.group(1) + want;
    }

    private static void compareTable(List<String> lines) {
        TreeSet<String> rows = new TreeSet<>();
        TreeSet<String> refusals = new TreeSet<>();
        for (String line : lines) {
            Matcher row = ROW.matcher(line);
            if (row.matches()) {
                String name = row.group(1);
                int parameters = row.group(2).isEmpty() ? 0 : row.group(2).split(", ").length;
                List<String> thrown = EXCEPTION.matcher(row.group(3)).results().map(found -> found.group()).toList();
                rows.add(name + " " + parameters + " " + thrown);
                thrown.forEach(exception -> refusals.add(name + " throws " + exception));
            }
        }
        Map<String, String> face = face();
        compare("the rows of the table", rows, new TreeSet<>(face.values()));
        compare("the calls that are shown with an answer", shownAnswers, new TreeSet<>(face.keySet()));
        compare("the refusals that are shown", shownRefusals, refusals);
    }

    private static Map<String, String> face() {
        Map<String, String> face = new TreeMap<>();
        for (Method method : CostStudio.class.getMethods()) {
            if (method.getDeclaringClass() == CostStudio.class) {
                List<String> thrown = new ArrayList<>();
                for (Class<?> exception : method.getExceptionTypes()) {
                    thrown.add(exception.getSimpleName());
                }
                face.put(method.getName(), method.getName() + " " + method.getParameterCount() + " " + thrown);
            }
        }
        return face;
    }

    private static void findTests(List<String> lines) {
        for (String line : lines) {
            Pattern.compile("\\w+Test\\b").matcher(line).results().forEach(found -> {
                try {
                    Class.forName(found.group(), false, ReadmeTest.class.getClassLoader());
                } catch (ClassNotFoundException e) {
                    report("there is no " + found.group());
                }
            });
        }
    }

    private static void compare(String what, TreeSet<String> found, TreeSet<String> due) {
        if (!found.equals(due)) {
            report(what + " are " + found + ", due is " + due);
        }
    }

    private static void report(String text) {
        wrong++;
        System.out.println("README.md: " + text);
    }
}
