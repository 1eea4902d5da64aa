import java.util.ArrayList;
import java.util.List;

/** What the tests share: texts onto the tape, a count of wrong answers, and the exit code. */
final class Due {
    private final String test;
    private int wrong = 0;
    private int asked = 0;

    Due(String test) {
        this.test = test;
    }

    void is(String what, long got, long want) {
        asked++;
        if (got != want) {
            wrong++;
            if (wrong <= 50) {
                System.out.println(test + ": " + what + " answered " + got + ", due is " + want);
            }
        }
    }

    void is(String what, boolean got, boolean want) {
        is(what, got ? 1L : 0L, want ? 1L : 0L);
    }

    void end() {
        System.out.println(test + ": " + asked + " answers, " + wrong + " wrong");
        if (wrong != 0) {
            System.exit(1);
        }
    }

    int wrong() {
        return wrong;
    }

    /** The five numbers of each feed() that brings these bytes, filled up with 0. */
    static List<int[]> feeds(int[] bytes) {
        List<int[]> all = new ArrayList<>();
        for (int at = 0; at < bytes.length; at += 20) {
            int[] five = new int[5];
            for (int i = 0; i < 20; i++) {
                int b = at + i < bytes.length ? bytes[at + i] : 0;
                five[i / 4] |= b << 24 - 8 * (i % 4);
            }
            all.add(five);
        }
        return all;
    }

    static int[] bytes(String text) {
        int[] bytes = new int[text.length()];
        for (int i = 0; i < bytes.length; i++) {
            bytes[i] = text.charAt(i);
        }
        return bytes;
    }

    static void tape(CrackerRing x, int... bytes) {
        x.end(0);
        for (int[] f : feeds(bytes)) {
            x.feed(f[0], f[1], f[2], f[3], f[4]);
        }
        x.end(bytes.length);
    }

    static int table(CrackerRing x, String text) {
        tape(x, bytes(text));
        return x.table();
    }

    static long ask(CrackerRing x, String text) {
        tape(x, bytes(text));
        return x.ask();
    }

    static boolean restore(CrackerRing x, int... bytes) {
        tape(x, bytes);
        return x.restore();
    }

    /** An image's bytes with the check behind them. */
    static int[] image(int... ahead) {
        int c = 227;
        int[] all = new int[ahead.length + 1];
        for (int i = 0; i < ahead.length; i++) {
            all[i] = ahead[i];
            c = (3 * c + ahead[i]) % 251;
        }
        all[ahead.length] = c;
        return all;
    }

    static CrackerRing with(String text) {
        CrackerRing x = new CrackerRing();
        if (table(x, text) < 0) {
            throw new IllegalStateException("no TABLE: " + text + " fault " + x.fault(0) + " at " + x.fault(1));
        }
        return x;
    }

    /** So many PEOPLE named a, b, c ..., with arms told two by two, right and left. */
    static String people(int... arms) {
        StringBuilder text = new StringBuilder();
        for (int i = 0; i + 1 < arms.length; i += 2) {
            text.append("person ").append((char) ('a' + i / 2)).append(" right ").append(arms[i])
                .append(" left ").append(arms[i + 1]).append(';');
        }
        return text.toString();
    }
}
