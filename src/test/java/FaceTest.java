import java.io.IOException;
import java.lang.reflect.Constructor;
import java.lang.reflect.Field;
import java.lang.reflect.Method;
import java.lang.reflect.Modifier;
import java.nio.charset.StandardCharsets;
import java.nio.file.Files;
import java.nio.file.Path;
import java.util.Arrays;
import java.util.List;
import java.util.TreeSet;

/** The public face as the document has it, and what of LANGUAGE.md can be seen by words alone. */
public final class FaceTest {
    private static final Due DUE = new Due("FaceTest");
    private static final List<String> FACE = Arrays.asList(
        "int feed(int,int,int,int,int)", "boolean end(int)", "int table()", "int fault(int)", "int has(int)",
        "int letter(int,int,int)", "int seat(int,int)", "int box(int)", "int cracker(int,int)", "int odds(int,int)",
        "int mean(int)", "int most()", "int seats(int)", "int best(int,int,int)", "int rests(int,int)",
        "int thumb(int,int,int,int)", "int duds(int,int,int)", "int pairs()", "int gifts()", "int left(int)",
        "int dine(int)", "boolean hold(int,int,int,int)", "boolean give(int,int)", "int pass()",
        "boolean change(int,int)", "boolean undo()", "boolean seed(int)", "long ask()", "int image()", "int octet(int)",
        "boolean restore()", "int status(int)");
    /** Words that stand nowhere outside comments: exceptions, the clock, what the library list leaves out. */
    private static final String[] NOWHERE = {"throw ", "try ", "catch ", "synchronized", "assert", "import ", "package ",
        "System.out", "Exact", "MAX_VALUE", "MIN_VALUE", "->", "::", "hashCode", "toString"};

    private static void members() {
        TreeSet<String> names = new TreeSet<>();
        for (Method m : CrackerRing.class.getDeclaredMethods()) {
            if (m.isSynthetic()) {
                continue;
            }
            boolean open = Modifier.isPublic(m.getModifiers());
            DUE.is("public or private: " + m, open || Modifier.isPrivate(m.getModifiers()), true);
            if (open) {
                StringBuilder b = new StringBuilder(m.getReturnType() + " " + m.getName() + "(");
                for (Class<?> p : m.getParameterTypes()) {
                    b.append(b.charAt(b.length() - 1) == '(' ? "" : ",").append(p);
                }
                names.add(m.getName());
                DUE.is("of the face: " + b + ")", FACE.contains(b + ")"), true);
            }
        }
        DUE.is("all of the face", names.size(), FACE.size());
        for (Method m : CrackerRing.class.getDeclaredMethods()) {
            DUE.is("no private name like a public one: " + m,
                m.isSynthetic() || Modifier.isPublic(m.getModifiers()) || !names.contains(m.getName()), true);
        }
        for (Field f : CrackerRing.class.getDeclaredFields()) {
            boolean constant = f.getName().equals("NONE") || f.getName().equals("NOTHING");
            DUE.is("field " + f, Modifier.isPublic(f.getModifiers()), constant);
            DUE.is("field " + f, Modifier.isPrivate(f.getModifiers()), !constant);
            DUE.is("static ones are final: " + f,
                !Modifier.isStatic(f.getModifiers()) || Modifier.isFinal(f.getModifiers()), true);
        }
        Constructor<?>[] made = CrackerRing.class.getDeclaredConstructors();
        DUE.is("one constructor", made.length, 1);
        DUE.is("public", Modifier.isPublic(made[0].getModifiers()), true);
        DUE.is("final", Modifier.isFinal(CrackerRing.class.getModifiers()), true);
        for (Class<?> inside : CrackerRing.class.getDeclaredClasses()) {
            DUE.is("static inside: " + inside, Modifier.isStatic(inside.getModifiers()), true);
            DUE.is("not public: " + inside, Modifier.isPublic(inside.getModifiers()), false);
        }
        DUE.is("classes", CrackerRing.class.getDeclaredClasses().length <= 12, true);
        DUE.is("NONE", CrackerRing.NONE, -1);
        DUE.is("NOTHING", CrackerRing.NOTHING, -1000000000000000L);
    }

    /** What of LANGUAGE.md can be seen of the outer class and of each one inside: rules 2, 3, 5, 11. */
    private static void shapes() {
        shape(CrackerRing.class);
        for (Class<?> inside : CrackerRing.class.getDeclaredClasses()) {
            shape(inside);
            DUE.is("none inside " + inside, inside.getDeclaredClasses().length, 0);
        }
    }

    private static void shape(Class<?> one) {
        int fields = 0;
        for (Field f : one.getDeclaredFields()) {
            boolean fixed = Modifier.isStatic(f.getModifiers());
            fields += fixed ? 0 : 1;
            DUE.is("static ones are final: " + f, !fixed || Modifier.isFinal(f.getModifiers()), true);
            DUE.is("of one dimension: " + f, f.getType().getTypeName().endsWith("[][]"), false);
        }
        DUE.is("twenty fields at most: " + one, fields <= 20, true);
        for (Method m : one.getDeclaredMethods()) {
            DUE.is("seven parameters at most: " + m, m.getParameterCount() <= 7, true);
        }
    }

    /** No method is longer than sixty lines: from a line that opens at a depth of one or two classes to the one that closes. */
    private static void lengths() throws IOException {
        List<String> lines = Files.readAllLines(Path.of("src/main/java/CrackerRing.java"), StandardCharsets.UTF_8);
        for (String margin : new String[] {"    ", "        "}) {
            int opened = -1;
            for (int i = 0; i < lines.size(); i++) {
                String line = lines.get(i);
                if (line.matches(margin + "\\S.*\\) \\{")) {
                    opened = i;
                } else if (opened >= 0 && line.equals(margin + "}")) {
                    DUE.is("sixty lines at most: " + lines.get(opened), i - opened < 60, true);
                    opened = -1;
                }
            }
        }
    }

    private static void words() throws IOException {
        String source = Files.readString(Path.of("src/main/java/CrackerRing.java"), StandardCharsets.UTF_8);
        String code = source.replaceAll("(?s)/\\*.*?\\*/", "").replaceAll("//[^\n]*", "");
        for (String word : NOWHERE) {
            DUE.is("nowhere: " + word, code.contains(word), false);
        }
        DUE.is("ASCII alone", source.chars().allMatch(c -> c < 127), true);
    }

    /** Wild arguments at each call, in states that come of them: nothing is thrown. */
    private static void wild() {
        int[] wild = {Integer.MIN_VALUE, -1000, -1, 0, 1, 2, 3, 7, 8, 20, 1600, 1601, Integer.MAX_VALUE};
        long state = 7;
        for (int run = 0; run < 300; run++) {
            CrackerRing x = run % 3 == 0 ? new CrackerRing() : Due.with(Due.people(Arrays.copyOf(new int[] {9, 1, 0, 0, 7, 7, 3,
                5, 2, 2, 8, 1, 0, 4, 99, 99}, run % 9 * 2)) + "box z duds 3;pull arm-low/other;slip 9*thumb;");
            for (int i = 0; i < 200; i++) {
                int[] a = new int[5];
                for (int k = 0; k < 5; k++) {
                    state = state * 6364136223846793005L + 1442695040888963407L;
                    a[k] = wild[(int) ((state >>> 33) % wild.length)];
                }
                state = state * 6364136223846793005L + 1442695040888963407L;
                anyCall(x, (int) ((state >>> 33) % 32), a);
            }
        }
    }

    private static void anyCall(CrackerRing x, int which, int[] a) {
        switch (which) {
            case 0: x.feed(a[0], a[1], a[2], a[3], a[4]); break;
            case 1: x.end(a[0]); break;
            case 2: x.table(); break;
            case 3: x.fault(a[0]); break;
            case 4: x.has(a[0]); break;
            case 5: x.letter(a[0], a[1], a[2]); break;
            case 6: x.seat(a[0], a[1]); break;
            case 7: x.box(a[0]); break;
            case 8: x.cracker(a[0], a[1]); break;
            case 9: x.odds(a[0], a[1]); break;
            case 10: x.mean(a[0]); break;
            case 11: x.most(); break;
            case 12: x.seats(a[0]); break;
            case 13: x.best(a[0], a[1], a[2]); break;
            case 14: x.rests(a[0], a[1]); break;
            case 15: x.thumb(a[0], a[1], a[2], a[3]); break;
            case 16: x.duds(a[0], a[1], a[2]); break;
            case 17: x.pairs(); break;
            case 18: x.gifts(); break;
            case 19: x.left(a[0]); break;
            case 20: x.dine(a[0]); break;
            case 21: x.hold(a[0], a[1], a[2], a[3]); break;
            case 22: x.give(a[0], a[1]); break;
            case 23: x.pass(); break;
            case 24: x.change(a[0], a[1]); break;
            case 25: x.undo(); break;
            case 26: x.seed(a[0]); break;
            case 27: x.ask(); break;
            case 28: x.image(); break;
            case 29: x.octet(a[0]); break;
            case 30: x.restore(); break;
            default: x.status(a[0]); break;
        }
    }

    public static void main(String[] args) throws IOException {
        members();
        shapes();
        lengths();
        words();
        wild();
        DUE.end();
    }
}
