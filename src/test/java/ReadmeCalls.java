import java.io.IOException;
import java.lang.reflect.Method;
import java.lang.reflect.Modifier;
import java.nio.file.Files;
import java.nio.file.Path;
import java.util.Set;
import java.util.TreeSet;
import java.util.regex.Matcher;
import java.util.regex.Pattern;

/**
 * Makes a test, in the form of those under ../shared/tests, of the java blocks of README.md. A block
 * that begins with "static" has methods; the lines of all others are calls, one behind the other,
 * and a call's comment begins with its answer. Ends with exit code 1 where that isn't so.
 */
final class ReadmeCalls {
    private static final Pattern BLOCK = Pattern.compile("(?ms)^```java\\n(.*?)^```$");
    private static final Pattern LINE = Pattern.compile("(?:(\\w+) (\\w+) = )?([^;]+);(?: +// (.*))?");
    private static final Pattern ANSWER = Pattern.compile("(true|false|NONE|-?\\d+)(?::.*)?");
    private static final Pattern CALL = Pattern.compile("\\b(\\w+)\\.(\\w+)\\(.*\\)");

    private final StringBuilder methods = new StringBuilder();
    private final StringBuilder calls = new StringBuilder();
    private final Set<String> notShown = new TreeSet<>();
    private final Set<String> withoutAnswer = new TreeSet<>();
    private boolean fine = true;

    private ReadmeCalls() {
        for (Method method : PeerLine.class.getDeclaredMethods()) {
            if (Modifier.isPublic(method.getModifiers())) {
                notShown.add(method.getName());
                if (method.getReturnType() == void.class) {
                    withoutAnswer.add(method.getName());
                }
            }
        }
    }

    public static void main(String[] args) throws IOException {
        ReadmeCalls made = new ReadmeCalls();
        made.read(Files.readString(Path.of(args[0])));
        Files.writeString(Path.of(args[1]), made.test());
        System.exit(made.fine ? 0 : 1);
    }

    private void read(String readme) {
        Matcher block = BLOCK.matcher(readme);
        while (block.find()) {
            if (block.group(1).startsWith("static ")) {
                methods.append(block.group(1));
            } else {
                block.group(1).lines().filter(line -> !line.isBlank()).forEach(this::readLine);
            }
        }
        for (String name : notShown) {
            wrong("does not show the call " + name);
        }
    }

    private void wrong(String what) {
        System.out.println("README.md " + what);
        fine = false;
    }

    private void readLine(String line) {
        Matcher parts = LINE.matcher(line);
        if (!parts.matches()) {
            wrong("has a line that is not a call: " + line);
            return;
        }
        Matcher call = CALL.matcher(parts.group(3));
        boolean ofTheClass = call.matches();
        if (ofTheClass) {
            notShown.remove(call.group(2));
        }
        boolean answers = ofTheClass && !withoutAnswer.contains(call.group(2));
        Matcher answer = ANSWER.matcher(parts.group(4) == null ? "" : parts.group(4));
        if (answer.matches() != answers) {
            wrong((answers ? "does not say what it answers: " : "tells the answer of a call that has none: ") + line);
        }
        write(parts, answer.matches() ? answer.group(1).replace("NONE", "PeerLine.NONE") : null);
    }

    private void write(Matcher parts, String answer) {
        String call = parts.group(3);
        String got = call;
        if (parts.group(2) != null) {
            calls.append("        " + parts.group(1) + " " + parts.group(2) + " = " + call + ";\n");
            got = parts.group(2);
        }
        if (answer != null) {
            calls.append("        due(\"" + quoted(call) + "\", " + got + ", " + answer + ");\n");
        } else if (parts.group(2) == null) {
            calls.append("        " + call + ";\n");
        }
    }

    private static String quoted(String text) {
        return text.replace("\\", "\\\\").replace("\"", "\\\"");
    }

    /** One method for each kind of answer, so that a number told of a boolean does not even compile. */
    private static String compares(String type) {
        return "    private static void due(String call, " + type + " got, " + type + " want) {\n"
                + "        made++;\n"
                + "        if (got != want) {\n"
                + "            wrong++;\n"
                + "            System.out.println(call + \" answered \" + got + \", README.md says \" + want);\n"
                + "        }\n"
                + "    }\n\n";
    }

    private String test() {
        return "public final class ReadmeUse {\n"
                + "    private static int made = 0;\n"
                + "    private static int wrong = 0;\n\n"
                + compares("long")
                + compares("boolean")
                + "    public static void main(String[] args) {\n"
                + calls
                + "        System.out.println(made + \" answers looked at, \" + wrong + \" not as README.md says\");\n"
                + "        System.exit(wrong == 0 ? 0 : 1);\n"
                + "    }\n\n"
                + methods
                + "}\n";
    }
}
