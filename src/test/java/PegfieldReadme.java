import java.io.IOException;
import java.lang.reflect.Method;
import java.lang.reflect.Modifier;
import java.nio.file.Files;
import java.nio.file.Path;
import java.util.List;
import java.util.regex.Matcher;
import java.util.regex.Pattern;

/**
 * README.md names each call and each test, and writes its example out as a program that tells each line's answer.
 * Run from the project's root; .ci/run then compiles that program, and runs it.
 */
public final class PegfieldReadme {
    private static final Pattern LINE = Pattern.compile("(field\\.\\w+\\(.*?\\));\\s*// (throws )?([\\w.-]+?)(?=[: ]|$).*");
    private static final String PROGRAM = "ReadmeExample";
    private static final String MADE = "Pegfield field = new Pegfield();";

    public static void main(String[] args) throws IOException {
        String page = Files.readString(Path.of("README.md"));
        namesAll(page);
        Path place = Path.of("build", "readme");
        Files.createDirectories(place);
        Files.writeString(place.resolve(PROGRAM + ".java"), program(example(page)));
        Check.end("PegfieldReadme");
    }

    private static void namesAll(String page) throws IOException {
        for (Method method : Pegfield.class.getDeclaredMethods()) {
            if (Modifier.isPublic(method.getModifiers())) {
                Check.same("README.md names " + method.getName(), true, page.contains("`" + method.getName() + "`"));
            }
        }
        Matcher tests = Pattern.compile("\\bPegfield[A-Z]\\w+").matcher(Files.readString(Path.of(".ci/run")));
        while (tests.find()) {
            Check.same("README.md names " + tests.group(), true, page.contains("- `" + tests.group() + "`:"));
        }
    }

    private static List<String> example(String page) {
        String start = "```java\n";
        int from = page.indexOf(start);
        int to = from < 0 ? -1 : page.indexOf("```", from + start.length());
        Check.same("README.md has an example", true, to > 0);
        List<String> lines = to > 0 ? page.substring(from + start.length(), to).lines().toList() : List.of();
        Check.same("it begins with a new field", true, !lines.isEmpty() && lines.get(0).equals(MADE));
        Check.same("it has calls", true, lines.size() > 1);
        return lines;
    }

    private static String program(List<String> lines) {
        StringBuilder text = new StringBuilder("public final class " + PROGRAM + " {\n");
        text.append("    public static void main(String[] args) {\n        " + MADE + "\n");
        for (String line : lines) {
            if (line.isBlank() || line.equals(MADE)) {
                continue;
            }
            Matcher parts = LINE.matcher(line);
            boolean isCall = parts.matches();
            Check.same("a call and its answer: " + line, true, isCall);
            if (isCall) {
                text.append(checked(parts.group(1), parts.group(3)));
            }
        }
        return text.append("        Check.end(\"" + PROGRAM + "\");\n    }\n}\n").toString();
    }

    private static String checked(String call, String want) {
        // take answers nothing, so that it can't stand behind "return".
        String body = call.startsWith("field.take(") ? "{ " + call + "; return \"nothing\"; }" : call;
        String what = call.replace("\"", "\\\"");
        return "        Check.due(\"" + what + "\", \"" + want + "\", () -> " + body + ");\n";
    }
}
