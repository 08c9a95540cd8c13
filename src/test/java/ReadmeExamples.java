import java.io.IOException;
import java.lang.reflect.Method;
import java.lang.reflect.Modifier;
import java.nio.file.Files;
import java.nio.file.Path;
import java.util.List;
import java.util.Set;
import java.util.TreeSet;
import java.util.regex.Matcher;
import java.util.regex.Pattern;

/**
 * Makes a test of what README.md shows: prints the source of ReadmeTest, which makes the calls of each java block there and
 * holds their answers against the comments behind them. So what a reader sees is what is run, and can't grow old unseen.
 */
final class ReadmeExamples {
    private static final String NUMBERS = "UNKNOWN = -101, OUTSIDE = -102, STATE = -103, PROOF = -104, CAPPED = -105, LACKS = -106, ROOM = -107, NONE = -109";
    private static final String THROWS = "throws ArithmeticException";
    private static final Pattern CALL = Pattern.compile(" *(?:int (\\w+) = )?(rents\\.(\\w+)\\(.*\\)); *// ([^:]+)(?:: .*)?");
    private static final Pattern NO_CALL = Pattern.compile("|RentSizes rents = new RentSizes\\(\\);|for \\([^)]*\\) \\{|\\}");

    private final StringBuilder main = new StringBuilder();
    private final StringBuilder methods = new StringBuilder();
    private final Set<String> notShown = new TreeSet<>();
    private int faults;

    public static void main(String[] args) throws IOException {
        ReadmeExamples examples = new ReadmeExamples();
        examples.readAll(Files.readAllLines(Path.of(args[0])));
        System.out.print(examples.test());
        if (examples.faults != 0) {
            System.exit(1);
        }
    }

    private ReadmeExamples() {
        for (Method method : RentSizes.class.getDeclaredMethods()) {
            if (Modifier.isPublic(method.getModifiers())) {
                notShown.add(method.getName());
            }
        }
        for (String number : NUMBERS.split(", ")) {
            notShown.add(number.split(" ")[0]);
        }
    }

    private void readAll(List<String> lines) {
        boolean inside = false;
        for (int i = 0; i < lines.size(); i++) {
            String line = lines.get(i);
            if (!inside && line.equals("```java")) {
                inside = true;
                begin(i + 1);
            } else if (inside && line.equals("```")) {
                inside = false;
                methods.append("    }\n");
            } else if (inside) {
                read(line, i + 1);
            }
        }
        if (inside) {
            fault("the last block has no end");
        }
        if (!notShown.isEmpty()) {
            fault("no block shows " + notShown);
        }
    }

    private void begin(int number) {
        main.append("        from").append(number).append("();\n");
        methods.append("\n    private static void from").append(number).append("() {\n");
        methods.append("        Check.sentence(\"README.md, the block from line ").append(number).append("\");\n");
    }

    private void read(String line, int number) {
        Matcher call = CALL.matcher(line);
        if (call.matches()) {
            notShown.remove(call.group(3));
            notShown.remove(call.group(4).strip());
            write("line " + number + ", " + call.group(2), call.group(1), call.group(2), call.group(4).strip());
        } else if (NO_CALL.matcher(line).matches()) {
            methods.append("        ").append(line).append('\n');
        } else {
            fault("line " + number + " is not a call with its answer: " + line);
        }
    }

    private void write(String told, String name, String call, String answer) {
        if (answer.equals(THROWS)) {
            methods.append("        try {\n            Check.fault(\"").append(told).append(" answered \" + ").append(call)
                    .append(");\n        } catch (ArithmeticException due) {\n            Check.due(\"").append(told).append("\", 1, 1);\n        }\n");
        } else if (name != null) {
            methods.append("        int ").append(name).append(" = ").append(call).append(";\n");
            due(told, name, answer);
        } else {
            due(told, call, answer);
        }
    }

    private void due(String told, String got, String want) {
        methods.append("        Check.due(\"").append(told).append("\", ").append(got).append(", ").append(want).append(");\n");
    }

    private String test() {
        return "public final class ReadmeTest {\n    private static final int " + NUMBERS + ";\n\n"
                + "    public static void main(String[] args) {\n" + main + "        Check.done();\n    }\n" + methods + "}\n";
    }

    private void fault(String told) {
        faults++;
        System.err.println("README.md: " + told);
    }
}
