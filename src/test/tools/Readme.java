import java.io.IOException;
import java.lang.reflect.Method;
import java.lang.reflect.Modifier;
import java.nio.file.Files;
import java.nio.file.Path;
import java.util.List;
import java.util.regex.Matcher;
import java.util.regex.Pattern;

/**
 * Makes a test of README.md: its Java, as it stands there, with each call that tells its answer behind // asked for it.
 * java -cp build/tools:build/main Readme README.md build/readme
 */
public final class Readme {
    private static final String TEST = "ReadmeCalls";
    private static final Pattern TOLD = Pattern.compile("(ring\\.(\\w+)\\(.*\\)); *// (-?\\d+|true|false|NONE|NOTHING)(:.*)?");

    private final StringBuilder methods = new StringBuilder();
    private final StringBuilder use = new StringBuilder();
    private final StringBuilder called = new StringBuilder(" ");

    private void readAll(List<String> lines) {
        boolean inside = false;
        StringBuilder to = use;
        for (int i = 0; i < lines.size(); i++) {
            String line = lines.get(i);
            if (line.startsWith("```")) {
                inside = line.equals("```java");
                // a block that begins with a method stands beside the calls, the others follow one another
                to = inside && lines.get(i + 1).startsWith("static ") ? methods : use;
            } else if (inside) {
                to.append(to == use ? call(line, i + 1) : line).append('\n');
            }
        }
    }

    private String call(String line, int number) {
        Matcher told = TOLD.matcher(line);
        if (told.matches()) {
            called.append(told.group(2)).append(' ');
            String call = told.group(1);
            String named = "README.md:" + number + " " + call;
            return "due.is(\"" + named.replace("\\", "\\\\").replace("\"", "\\\"") + "\", " + call + ", " + told.group(3) + ");";
        }
        if (line.startsWith("ring.")) {
            throw new IllegalStateException("README.md:" + number + " tells no answer: " + line);
        }
        return line;
    }

    /** README.md is to show each call of the face. */
    private void needAll(Class<?> face) {
        for (Method method : face.getDeclaredMethods()) {
            if (Modifier.isPublic(method.getModifiers()) && !called.toString().contains(" " + method.getName() + " ")) {
                throw new IllegalStateException("README.md does not show " + method.getName() + "()");
            }
        }
    }

    private String source() {
        return "public final class " + TEST + " {\n"
            + "private static final int NONE = CrackerRing.NONE;\n"
            + "private static final long NOTHING = CrackerRing.NOTHING;\n"
            + methods
            + "public static void main(String[] args) {\n"
            + "Due due = new Due(\"" + TEST + "\");\n"
            + use
            + "due.end();\n}\n}\n";
    }

    public static void main(String[] args) throws IOException, ClassNotFoundException {
        if (args.length != 2) {
            throw new IllegalArgumentException("Readme README.md DIRECTORY");
        }
        Readme readme = new Readme();
        readme.readAll(Files.readAllLines(Path.of(args[0])));
        readme.needAll(Class.forName("CrackerRing"));
        Files.createDirectories(Path.of(args[1]));
        Files.writeString(Path.of(args[1], TEST + ".java"), readme.source());
    }
}
