import java.util.ArrayList;
import java.util.List;

/** Runs of calls, drawn by a seed that is always the same, on the class and on the Model: all answers are alike. */
public final class RandomRunsTest {
    private static final Due DUE = new Due("RandomRunsTest");
    private static final String[] NAMES = {"a", "b", "ann", "bob", "cid", "dora", "emil", "fritz", "gustav", "first"};
    private static final String[] OWN = Model.OWN.toArray(new String[0]);
    private static long state;

    private static int draw(int m) {
        state = state * 6364136223846793005L + 1442695040888963407L;
        return (int) ((state >>> 33) % m);
    }

    private static boolean often(int percent) {
        return draw(100) < percent;
    }

    private static <T> T one(T[] all) {
        return all[draw(all.length)];
    }

    /** A number, mostly of those that can be, at times one off. */
    private static int about(int most) {
        return often(94) ? draw(most + 1) : draw(3) == 0 ? -1 - draw(3) : most + 1 + draw(4);
    }

    private static String blank() {
        return often(85) ? "" : often(50) ? " " : "\n ";
    }

    private static String sum(int depth, boolean asked) {
        StringBuilder b = new StringBuilder(product(depth, asked));
        for (int i = draw(depth > 3 ? 2 : 3); i > 0; i--) {
            b.append(blank()).append(often(60) ? '+' : '-').append(blank()).append(product(depth, asked));
        }
        return b.toString();
    }

    private static String product(int depth, boolean asked) {
        StringBuilder b = new StringBuilder(part(depth, asked));
        for (int i = draw(3) == 0 ? 1 + draw(2) : 0; i > 0; i--) {
            b.append(blank()).append(often(60) ? '*' : '/').append(blank()).append(part(depth, asked));
        }
        return b.toString();
    }

    private static String part(int depth, boolean asked) {
        int kind = draw(depth > 6 ? 6 : 10);
        if (kind < 3) {
            return "" + (often(60) ? draw(10) : often(50) ? draw(100) : draw(10000));
        }
        if (kind < 6) {
            return one((asked ? Model.ASKED : Model.HANDS_FACTS).toArray(new String[0]));
        }
        if (kind == 6 && asked) {
            return "wins " + (often(80) ? "" + draw(9) : part(depth + 1, true));
        }
        if (kind < 8) {
            return "(" + sum(depth + 2, asked) + blank() + ")";
        }
        return (often(50) ? "min" : "max") + blank() + "(" + sum(depth + 2, asked) + "," + sum(depth + 2, asked) + ")";
    }

    private static String test(int depth) {
        StringBuilder b = new StringBuilder(both(depth));
        for (int i = draw(3) == 0 ? 1 : 0; i > 0; i--) {
            b.append(" or ").append(both(depth));
        }
        return b.toString();
    }

    private static String both(int depth) {
        StringBuilder b = new StringBuilder(fact(depth));
        for (int i = draw(3) == 0 ? 1 : 0; i > 0; i--) {
            b.append(" and ").append(fact(depth));
        }
        return b.toString();
    }

    private static String fact(int depth) {
        int kind = draw(depth > 5 ? 5 : 8);
        if (kind < 4) {
            return sum(depth + 1, true) + one(new String[] {"<", ">", "="}) + sum(depth + 1, true);
        }
        if (kind == 4) {
            return "all";
        }
        return kind == 5 ? "not " + fact(depth + 1) : "[" + test(depth + 2) + blank() + "]";
    }

    private static String statement(List<String> people) {
        String who = people.isEmpty() || often(3) ? one(NAMES) : people.get(draw(people.size()));
        switch (draw(14)) {
            case 0: case 1: return "hats " + who + " " + (often(98) ? draw(10) : draw(12));
            case 2: return "box " + (often(85) ? "x" : "y") + (char) ('a' + draw(26)) + " duds " + (often(97) ? draw(101) : 101);
            case 3: return "bang " + (often(97) ? draw(101) : 101 + draw(9999));
            case 4: case 5: return "pull " + sum(draw(4), false);
            case 6: return "slip " + sum(draw(4), false);
            case 7: return "slip " + draw(3) * 50 + "*" + one(Model.GRIPS.toArray(new String[0]));
            default: return "holds " + who + (often(50) ? " right " : " left ") + one(Model.GRIPS.toArray(new String[0]))
                + " " + (often(98) ? draw(10) : draw(12));
        }
    }

    private static String tableText() {
        StringBuilder b = new StringBuilder();
        List<String> people = new ArrayList<>();
        int n = often(80) ? 2 + draw(5) : draw(10);
        for (int i = 0; i < n; i++) {
            String name = often(98) ? NAMES[i % NAMES.length] : one(NAMES);
            people.add(name);
            int most = often(50) ? 3 : 99;
            b.append("person ").append(name).append(" right ").append(draw(most + 1)).append(blank()).append(" left ")
                .append(draw(most + 1)).append(blank()).append(';').append(blank());
        }
        for (int i = draw(often(95) ? 12 : 70); i > 0; i--) {
            b.append(statement(people)).append(blank()).append(';');
        }
        return b.toString();
    }

    /** A text with a byte or a word gone, doubled, or another one. */
    private static String spoilt(String text) {
        if (text.isEmpty()) {
            return "x";
        }
        int at = draw(text.length());
        String ahead = text.substring(0, at);
        switch (draw(6)) {
            case 0: return ahead;
            case 1: return ahead + text.substring(at + 1);
            case 2: return ahead + text.charAt(at) + text.substring(at);
            case 3: return ahead + one(OWN) + text.substring(at);
            case 4: return ahead + one(new String[] {"(", ")", "[", "]", ";", ",", "<", "7", "not ", " ", "\t", "A", "\u00ff"})
                + text.substring(at);
            default: return ahead + (char) draw(256) + text.substring(at + 1);
        }
    }

    private static void tape(CrackerRing x, Model y, int[] bytes) {
        for (int[] f : Due.feeds(bytes)) {
            DUE.is("feed", x.feed(f[0], f[1], f[2], f[3], f[4]), y.feed(f[0], f[1], f[2], f[3], f[4]));
        }
        int n = often(99) ? bytes.length : draw(1700) - 20;
        DUE.is("end " + n, x.end(n), y.end(n));
    }

    private static int[] someImage(Model y) {
        y.image();
        int[] ahead = new int[y.image.length - 1];
        for (int i = 0; i < ahead.length; i++) {
            ahead[i] = y.image[i];
        }
        for (int i = draw(3); i > 0; i--) {
            int at = draw(ahead.length);
            ahead[at] = often(70) ? draw(11) : draw(256);
        }
        int[] all = Due.image(ahead);
        if (often(10)) {
            all[draw(all.length)] ^= 1 << draw(8);
        }
        return often(95) ? all : Due.image(all);
    }

    private static String step(CrackerRing x, Model y) {
        int a = about(7);
        int b = about(1);
        int c = about(2);
        int d = about(9);
        int e = about(7);
        String call = a + " " + b + " " + c + " " + d + " " + e;
        switch (draw(23)) {
            case 0: return texts(x, y);
            case 1: case 2: case 3: DUE.is("hold " + call, x.hold(a, b, c, d), y.hold(a, b, c, d)); break;
            case 4: case 5: DUE.is("give " + call, x.give(a, e), y.give(a, e)); break;
            case 6: DUE.is("pass", x.pass(), y.pass()); break;
            case 7: case 8: DUE.is("change " + call, x.change(a, e), y.change(a, e)); break;
            case 9: case 10: case 11: DUE.is("undo", x.undo(), y.undo()); break;
            case 12: DUE.is("seed " + call, x.seed(a * 123456789), y.seed(a * 123456789)); break;
            case 13: case 14: DUE.is("dine " + a, x.dine(a), y.dine(a)); break;
            case 15:
                int many = about(50);
                DUE.is("dine " + many, x.dine(many), y.dine(many));
                break;
            case 16:
                int[] image = someImage(y);
                x.image();
                tape(x, y, image);
                DUE.is("restore", x.restore(), y.restore());
                break;
            default: return question(x, y);
        }
        return call;
    }

    private static String texts(CrackerRing x, Model y) {
        String text = often(70) ? tableText() : spoilt(tableText());
        tape(x, y, Due.bytes(text));
        DUE.is("table " + text, x.table(), y.table());
        DUE.is("fault 0 " + text, x.fault(0), y.fault(0));
        DUE.is("fault 1 " + text, x.fault(1), y.fault(1));
        return text;
    }

    private static String question(CrackerRing x, Model y) {
        String word = one(new String[] {"first ", "last ", "often ", "total ", "most ", "least "});
        boolean test = "first last often ".contains(word);
        String text = word + (test ? test(0) : sum(0, true));
        text = often(70) ? text : spoilt(text);
        tape(x, y, Due.bytes(text));
        DUE.is("ask " + text, x.ask(), y.ask());
        DUE.is("fault 0 " + text, x.fault(0), y.fault(0));
        DUE.is("fault 1 " + text, x.fault(1), y.fault(1));
        return text;
    }

    private static void look(CrackerRing x, Model y) {
        for (int what = -1; what < 11; what++) {
            DUE.is("has " + what, x.has(what), y.has(what));
            DUE.is("status " + what, x.status(what), y.status(what));
        }
        int n = y.n();
        for (int s = -1; s <= n; s++) {
            for (int what = -1; what < 9; what++) {
                DUE.is("seat " + s + " " + what, x.seat(s, what), y.seat(s, what));
                DUE.is("cracker " + s + " " + what, x.cracker(s, what), y.cracker(s, what));
            }
            for (int k = -1; k < 7; k++) {
                DUE.is("letter 0 " + s + " " + k, x.letter(0, s, k), y.letter(0, s, k));
                DUE.is("letter 1 " + s + " " + k, x.letter(1, s, k), y.letter(1, s, k));
            }
            DUE.is("box " + s, x.box(s), y.box(s));
        }
        DUE.is("letter 2", x.letter(2, 0, 0), -1);
        DUE.is("most", x.most(), y.most());
        DUE.is("pairs", x.pairs(), y.pairs());
        DUE.is("gifts", x.gifts(), y.gifts());
        DUE.is("image", x.image(), y.image());
        for (int k = -1; k < 57; k++) {
            DUE.is("octet " + k, x.octet(k), y.octet(k));
        }
        for (int what = -1; what < 4; what++) {
            DUE.is("mean " + what, x.mean(what), y.mean(what));
            DUE.is("left " + what, x.left(what), y.left(what));
        }
    }

    private static void odds(CrackerRing x, Model y) {
        int n = y.n();
        int seat = draw(n + 2) - 1;
        int hats = about(2);
        DUE.is("odds", x.odds(seat, hats), y.odds(seat, hats));
        DUE.is("seats(NONE)", x.seats(-1), y.seats(-1));
        DUE.is("seats " + seat, x.seats(seat), y.seats(seat));
        for (int k = 0; k < n && y.bestRow != null && n < 8; k++) {
            DUE.is("seats " + k, x.seats(k), y.seats(k));
        }
        DUE.is("rests(NONE)", x.rests(-1, 0), y.rests(-1, 0));
        for (int hand = -1; hand < 3; hand++) {
            for (int what = -1; what < 3; what++) {
                DUE.is("best " + seat, x.best(seat, hand, what), y.best(seat, hand, what));
            }
            DUE.is("rests " + seat, seat < 0 ? -1 : x.rests(seat, hand), seat < 0 ? -1 : y.rests(seat, hand));
            for (int m = 0; m < 5; m++) {
                int w = about(m);
                DUE.is("thumb " + m + " " + w, x.thumb(seat, hand, m, w), y.thumb(seat, hand, m, w));
            }
        }
        for (int m = 0; m < 8; m++) {
            int d = about(m);
            for (int what = -1; what < 3; what++) {
                DUE.is("duds", x.duds(m, d, what), y.duds(m, d, what));
            }
        }
    }

    public static void main(String[] args) {
        int runs = args.length > 0 ? Integer.parseInt(args[0]) : 1500;
        long from = args.length > 1 ? Long.parseLong(args[1]) : 1L;
        for (int run = 0; run < runs && DUE.wrong() == 0; run++) {
            state = from * 1000003L + run;
            CrackerRing x = new CrackerRing();
            Model y = new Model();
            StringBuilder told = new StringBuilder(texts(x, y));
            for (int i = 0; i < 40 && DUE.wrong() == 0; i++) {
                told.append("\n  ").append(step(x, y));
                if (draw(6) == 0) {
                    look(x, y);
                }
                if (draw(10) == 0) {
                    odds(x, y);
                }
            }
            if (DUE.wrong() != 0) {
                System.out.println("run " + run + ":\n" + told);
            }
        }
        DUE.end();
    }
}
