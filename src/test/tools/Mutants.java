import java.io.File;
import java.io.IOException;
import java.io.OutputStream;
import java.nio.file.Files;
import java.nio.file.Path;
import java.util.ArrayList;
import java.util.List;
import java.util.TreeMap;
import java.util.concurrent.ExecutorService;
import java.util.concurrent.Executors;
import java.util.concurrent.Future;
import java.util.concurrent.TimeUnit;
import javax.tools.ToolProvider;

/**
 * Run by hand, behind .ci/run: breaks the class at one place after another (a sign, a number, a statement) and tells
 * which breaks the tests of the edges do not see. java -cp build/tools Mutants [tests, parted by commas]
 */
public final class Mutants {
    private static final Path CLASS = Path.of("src/main/java/CrackerRing.java");
    private static final Path OUT = Path.of("build/mutants");
    private static final String TESTS = "EdgeTableTest,EdgeQuestionTest,EdgeRingTest,EdgeCallTest";
    private static final int SECONDS = 30;
    /** A sign and what stands for it in the broken class; longer ones first. Shifts stay as they are. */
    private static final String[][] SIGNS = {{"<<", null}, {">>", null}, {"<=", "<"}, {">=", ">"}, {"==", "!="}, {"!=", "=="},
        {"&&", "||"}, {"||", "&&"}, {"++", "--"}, {"--", "++"}, {"+=", "-="}, {"-=", "+="}, {"*=", "+="}, {"|=", "="},
        {"<", "<="}, {">", ">="}, {"!", ""}, {"+", "-"}, {"- ", "+ "}, {"*", "+"}, {"/", "*"}, {"%", "/"}};
    private static final String NO_STATEMENT = "(return|private|final|public|int|long|boolean|String|case|for|Table|State|Pull|&&|\\|\\||\\?|//).*";

    private final String source;
    private final List<int[]> places = new ArrayList<>();
    private final List<String> instead = new ArrayList<>();

    private Mutants(String source) {
        this.source = source;
    }

    private void add(int from, int to, String by) {
        places.add(new int[] {from, to});
        instead.add(by);
    }

    /** Where a comment or a text that begins here ends; the same place if none does. */
    private int behindText(int i) {
        if (source.startsWith("//", i)) {
            return source.indexOf('\n', i);
        }
        if (source.startsWith("/*", i)) {
            return source.indexOf("*/", i) + 2;
        }
        char c = source.charAt(i);
        return c == '"' || c == '\'' ? source.indexOf(c, i + 1) + 1 : i;
    }

    private void findAll() {
        int i = 0;
        while (i < source.length()) {
            int behind = behindText(i);
            i = behind > i ? behind : Character.isJavaIdentifierPart(source.charAt(i)) ? word(i) : sign(i);
        }
        int at = 0;
        for (String line : source.split("\n", -1)) {
            String text = line.strip();
            if (text.endsWith(";") && !text.matches(NO_STATEMENT)) {
                add(at + line.indexOf(text), at + line.indexOf(text) + text.length(), ";");
            }
            at += line.length() + 1;
        }
    }

    private int word(int from) {
        int to = from;
        while (Character.isJavaIdentifierPart(source.charAt(to))) {
            to++;
        }
        String word = source.substring(from, to);
        if (word.matches("[0-9]+L?")) {
            String end = word.endsWith("L") ? "L" : "";
            long number = Long.parseLong(word.replace("L", ""));
            add(from, to, number + 1 + end);
            add(from, to, "(" + (number - 1) + end + ")");
        }
        return to;
    }

    private int sign(int i) {
        for (String[] s : SIGNS) {
            if (source.startsWith(s[0], i)) {
                if (s[1] != null) {
                    add(i, i + s[0].length(), s[1]);
                }
                return i + s[0].length();
            }
        }
        return i + 1;
    }

    private String tell(int n) {
        int from = places.get(n)[0];
        int to = places.get(n)[1];
        long line = source.substring(0, from).lines().count();
        return line + ": " + source.substring(source.lastIndexOf('\n', from) + 1, from).stripLeading() + "[" + source.substring(from, to)
            + " => " + instead.get(n) + "]" + source.substring(to, source.indexOf('\n', to));
    }

    /** Whether no test sees it; one that does not compile, or that never ends, is seen. */
    private boolean lives(int n, String[] tests) throws IOException, InterruptedException {
        Path dir = Files.createDirectories(OUT.resolve(Integer.toString(n)));
        Path file = dir.resolve("CrackerRing.java");
        int[] place = places.get(n);
        Files.writeString(file, source.substring(0, place[0]) + instead.get(n) + source.substring(place[1]));
        OutputStream nowhere = OutputStream.nullOutputStream();
        boolean lives = ToolProvider.getSystemJavaCompiler().run(null, nowhere, nowhere, "-d", dir.toString(), file.toString()) == 0;
        for (int i = 0; i < tests.length && lives; i++) {
            lives = passes(dir, tests[i]);
        }
        for (File made : dir.toFile().listFiles()) {
            Files.delete(made.toPath());
        }
        Files.delete(dir);
        return lives;
    }

    private static boolean passes(Path dir, String test) throws IOException, InterruptedException {
        Process p = new ProcessBuilder("java", "-XX:TieredStopAtLevel=1", "-XX:+UseSerialGC", "-cp", dir + ":build/test", test)
            .redirectErrorStream(true).redirectOutput(ProcessBuilder.Redirect.DISCARD).start();
        if (!p.waitFor(SECONDS, TimeUnit.SECONDS)) {
            p.destroyForcibly();
            return false;
        }
        return p.exitValue() == 0;
    }

    public static void main(String[] args) throws Exception {
        Mutants all = new Mutants(Files.readString(CLASS));
        all.findAll();
        String[] tests = (args.length > 0 ? args[0] : TESTS).split(",");
        ExecutorService threads = Executors.newFixedThreadPool(Runtime.getRuntime().availableProcessors());
        TreeMap<Integer, Future<Boolean>> lives = new TreeMap<>();
        for (int n = 0; n < all.places.size(); n++) {
            int one = n;
            lives.put(n, threads.submit(() -> all.lives(one, tests)));
        }
        int living = 0;
        for (int n : lives.keySet()) {
            if (lives.get(n).get()) {
                living++;
                System.out.println(all.tell(n));
            }
        }
        threads.shutdown();
        System.out.println(living + " of " + all.places.size() + " breaks are not seen");
    }
}
