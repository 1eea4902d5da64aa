import java.io.IOException;
import java.nio.charset.StandardCharsets;
import java.nio.file.Files;
import java.nio.file.Path;
import java.util.function.IntUnaryOperator;

/**
 * What the tests of the edges share: the sentence of the document that is tested, which must stand there, and which
 * is named where an answer is wrong.
 */
final class Edge {
    private static final int PROMISES = 33;
    private final Due due;
    private final String test;
    private final String doc;
    private final boolean[] named = new boolean[PROMISES + 1];
    private String heading = "";
    private int asked = 1;
    private int sentences = 0;

    Edge(String test) {
        this.test = test;
        due = new Due(test);
        doc = read();
    }

    private static String read() {
        try {
            return oneLine(Files.readString(Path.of("../shared/DOC.md"), StandardCharsets.UTF_8));
        } catch (IOException e) {
            throw new IllegalStateException("../shared/DOC.md is not there", e);
        }
    }

    private static String oneLine(String text) {
        return text.replaceAll("\\s+", " ");
    }

    /** Begins the test of a sentence: it must stand under its promise or ahead of all promises. */
    void sentence(int promise, String words) {
        due.is(heading + "has a test", asked > 0, true);
        heading = "promise " + promise + ", \"" + words + "\": ";
        due.is(heading + "stands in the document", stands(promise, words), true);
        named[promise] = true;
        asked = 0;
        sentences++;
    }

    private boolean stands(int promise, String words) {
        return under("## Promise " + promise + ":").contains(words) || under("## Terms").contains(words)
            || under("## The public face").contains(words) || under("## What it is").contains(words);
    }

    private String under(String title) {
        int from = doc.indexOf(title);
        int to = from < 0 ? -1 : doc.indexOf(" ## ", from);
        return from < 0 ? "" : to < 0 ? doc.substring(from) : doc.substring(from, to);
    }

    void is(String call, long got, long want) {
        asked++;
        due.is(heading + call, got, want);
    }

    void is(String call, boolean got, boolean want) {
        asked++;
        due.is(heading + call, got, want);
    }

    /** A call answers from the lowest number to the highest one, and NONE for all others. */
    void alone(String call, int lowest, int highest, IntUnaryOperator answer) {
        for (int n = lowest; n <= highest; n++) {
            is(call + " of " + n + " is something", answer.applyAsInt(n) != CrackerRing.NONE, true);
        }
        for (int n : new int[] {lowest - 2, lowest - 1, highest + 1, highest + 2, Integer.MIN_VALUE, Integer.MAX_VALUE}) {
            is(call + " of " + n, answer.applyAsInt(n), CrackerRing.NONE);
        }
    }

    /** A TABLE without a FAULT, of so many STATEMENTS. */
    CrackerRing fine(String text, int statements) {
        CrackerRing x = new CrackerRing();
        is("table() of '" + text + "'", Due.table(x, text), statements);
        is("fault(0) of '" + text + "'", x.fault(0), 0);
        is("fault(1) of '" + text + "'", x.fault(1), CrackerRing.NONE);
        return x;
    }

    /** A TABLE with a FAULT, told with a caret ahead of its place. */
    void fault(int fault, String told) {
        CrackerRing x = new CrackerRing();
        is("table() of '" + told + "'", Due.table(x, without(told)), CrackerRing.NONE);
        place(x, fault, told);
    }

    /** A QUESTION with a FAULT, told with a caret ahead of its place. */
    void wrongQuestion(int fault, String told) {
        CrackerRing x = Due.with(Due.people(1, 2, 3, 4));
        is("ask() of '" + told + "'", Due.ask(x, without(told)), CrackerRing.NOTHING);
        place(x, fault, told);
    }

    private void place(CrackerRing x, int fault, String told) {
        is("fault(0) of '" + told + "'", x.fault(0), fault);
        is("fault(1) of '" + told + "'", x.fault(1), told.indexOf('^'));
    }

    private static String without(String told) {
        int caret = told.indexOf('^');
        return told.substring(0, caret) + told.substring(caret + 1);
    }

    void asks(CrackerRing x, String question, long want) {
        is("ask() of '" + question + "'", Due.ask(x, question), want);
        is("fault(0) of '" + question + "'", x.fault(0), 0);
    }

    /** What cracker() tells of a CRACKER, from MIGHT of the right HAND on. */
    void tells(CrackerRing x, int cracker, int... want) {
        for (int what = 0; what < want.length; what++) {
            is("cracker(" + cracker + ", " + what + ")", x.cracker(cracker, what), want[what]);
        }
    }

    /** All that can be seen of an object by calls that alter nothing but the latest image. */
    static String seen(CrackerRing x) {
        StringBuilder b = new StringBuilder();
        for (int what = 0; what < 10; what++) {
            b.append(x.has(what)).append(' ');
        }
        for (int s = 0; s < x.has(0); s++) {
            for (int what = 0; what < 8; what++) {
                b.append(x.seat(s, what)).append(' ');
            }
            for (int what = 0; what < 7; what++) {
                b.append(x.cracker(s, what)).append(' ');
            }
            b.append(x.letter(0, s, 0)).append(' ');
        }
        for (int box = 0; box < x.has(2); box++) {
            b.append(x.letter(1, box, 0)).append(x.box(box)).append(' ');
        }
        return b.toString();
    }

    /** The DRAWS by a seed, of what each is a DRAW. */
    static int[] draws(int seed, int... of) {
        long x = seed;
        int[] drawn = new int[of.length];
        for (int i = 0; i < of.length; i++) {
            x = (1103515245L * x + 12345L) % (1L << 31);
            drawn[i] = (int) (x / 64 % of[i]);
        }
        return drawn;
    }

    void allPromises() {
        for (int promise = 1; promise <= PROMISES; promise++) {
            due.is("promise " + promise + " has a sentence tested", named[promise], true);
        }
    }

    void end() {
        due.is(heading + "has a test", asked > 0, true);
        System.out.println(test + ": " + sentences + " sentences");
        due.end();
    }
}
