import java.lang.reflect.Method;
import java.lang.reflect.Modifier;
import java.nio.file.Files;
import java.nio.file.Path;
import java.util.ArrayList;
import java.util.List;
import java.util.regex.Matcher;
import java.util.regex.Pattern;

/**
 * Writes ReadmeTest.java out of the Java blocks of README.md: each call with an answer behind it becomes a check, all else
 * stays as it is written, so that the compiler sees the code that a reader sees.
 */
public final class ReadmeCalls {
    private static final String ANSWER = "(-?\\d+|\\d+\\.\\d+f?|true|false|NONE|PARSE_ERROR|\"[^\"]*\"|throws \\w+)";
    private static final Pattern CALL = Pattern.compile("([\\w.]+\\(.*\\));\\s+// " + ANSWER + "(: .+)?", Pattern.DOTALL);
    /** What stands without an answer: a new object, and calls of which none answers anything. */
    private static final Pattern SILENT = Pattern.compile("EchoLine \\w = new EchoLine\\(\\);|(\\w\\.truncate|give)\\(.*\\);",
        Pattern.DOTALL);

    private final StringBuilder helpers = new StringBuilder();
    private final StringBuilder calls = new StringBuilder();
    private final List<String> mistakes = new ArrayList<>();
    private int answers = 0;

    public static void main(String[] args) throws Exception {
        String page = Files.readString(Path.of(args[0]));
        ReadmeCalls reader = new ReadmeCalls();
        reader.read(page);
        reader.lookForEachMethod();
        if (!reader.mistakes.isEmpty() || reader.answers == 0) {
            System.out.println(args[0] + ", " + reader.answers + " answers: " + String.join("\n", reader.mistakes));
            System.exit(1);
        }
        Files.writeString(Path.of(args[1]), reader.test());
    }

    private void read(String page) {
        Matcher blocks = Pattern.compile("^```(\\w*)\n(.*?)^```$", Pattern.DOTALL | Pattern.MULTILINE).matcher(page);
        while (blocks.find()) {
            String block = blocks.group(2);
            if (!blocks.group(1).equals("java")) {
                mistakes.add("a block that is not Java: " + block);
            } else if (block.startsWith("/**") || block.startsWith("static")) {
                helpers.append(block).append('\n');
            } else {
                readStatements(block);
            }
        }
    }

    /** A statement may go over several lines; the last one of them has a semicolon, and behind it the answer. */
    private void readStatements(String block) {
        StringBuilder statement = new StringBuilder();
        for (String line : block.split("\n")) {
            statement.append(statement.length() > 0 ? "\n" : "").append(line);
            if (line.matches(".*;(\\s+// .*)?")) {
                readStatement(statement.toString().trim());
                statement.setLength(0);
            }
        }
        if (statement.length() > 0) {
            mistakes.add("a statement without an end: " + statement);
        }
    }

    private void readStatement(String statement) {
        Matcher call = CALL.matcher(statement);
        if (call.matches()) {
            answers++;
            check(call.group(1), call.group(2));
        } else if (SILENT.matcher(statement).matches()) {
            calls.append("        ").append(statement).append('\n');
        } else {
            mistakes.add("neither a call with its answer nor one without: " + statement);
        }
    }

    private void check(String call, String answer) {
        String name = "\"" + call.replace("\\", "\\\\").replace("\"", "\\\"").replace("\n", " ") + "\"";
        if (answer.startsWith("throws ")) {
            String due = answer.substring("throws ".length());
            calls.append("        Check.raises(" + name + ", " + due + ".class, () -> " + call + ");\n");
        } else {
            boolean constant = answer.equals("NONE") || answer.equals("PARSE_ERROR");
            calls.append("        Check.is(" + name + ", " + call + ", " + (constant ? "EchoLine." : "") + answer + ");\n");
        }
    }

    private void lookForEachMethod() {
        for (Method m : EchoLine.class.getDeclaredMethods()) {
            String call = "." + m.getName() + "(";
            if (Modifier.isPublic(m.getModifiers()) && calls.indexOf(call) < 0 && helpers.indexOf(call) < 0) {
                mistakes.add("no call of " + m.getName());
            }
        }
    }

    private String test() {
        return "import java.util.NoSuchElementException;\n\n/** Written by ReadmeCalls out of README.md. */\n"
            + "public final class ReadmeTest {\n    public static void main(String[] args) {\n" + calls
            + "        Check.finish();\n    }\n\n" + helpers + "}\n";
    }
}
