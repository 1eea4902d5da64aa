import java.math.BigInteger;
import java.util.ArrayDeque;
import java.util.ArrayList;
import java.util.Arrays;
import java.util.HashMap;
import java.util.List;
import java.util.Map;
import java.util.TreeMap;

/**
 * The document once more, in another way: the text read byte by byte with exceptions, odds counted over all
 * outcomes of all CRACKERS, rows one by one, gifts by matching. Slow, and with the Java library.
 */
final class Model {
    static final class Fault extends RuntimeException {
        private static final long serialVersionUID = 1L;
        final int kind;
        final int place;

        Fault(int kind, int place) {
            super(null, null, false, false);
            this.kind = kind;
            this.place = place;
        }
    }

    interface Expr {
        int of(Map<String, Integer> facts);
    }

    static final class Person implements Cloneable {
        String name;
        int number;
        int[] arm = new int[2];
        int hats;
        int[] grip = {0, 0};
        int[] low = {5, 5};

        Person copy() {
            Person p = new Person();
            p.name = name;
            p.number = number;
            p.arm = arm.clone();
            p.hats = hats;
            p.grip = grip.clone();
            p.low = low.clone();
            return p;
        }
    }

    static final class World {
        List<Person> row = new ArrayList<>();
        int dinners;
        int bangs;
        int under;

        World copy() {
            World w = new World();
            for (Person p : row) {
                w.row.add(p.copy());
            }
            w.dinners = dinners;
            w.bangs = bangs;
            w.under = under;
            return w;
        }
    }

    static final List<String> OWN = Arrays.asList("person", "right", "left", "holds", "seam", "paper", "thumb", "box",
        "duds", "hats", "pull", "slip", "bang", "arm", "low", "other", "number", "wins", "or", "and", "not", "all",
        "min", "max");
    static final List<String> GRIPS = Arrays.asList("seam", "paper", "thumb");

    // ---- reading

    /** A text read from the left on. */
    static class Reader {
        final String s;
        int i = 0;
        int open = 0;

        Reader(String s) {
            this.s = s;
        }

        static boolean letter(char c) {
            return c >= 'a' && c <= 'z';
        }

        static boolean digit(char c) {
            return c >= '0' && c <= '9';
        }

        void blanks() {
            while (i < s.length() && (s.charAt(i) == ' ' || s.charAt(i) == '\n')) {
                i++;
            }
        }

        /** Whether what stands here sticks to a word or a number ahead that it should be parted from. */
        boolean sticks() {
            if (i == 0 || i >= s.length()) {
                return false;
            }
            char a = s.charAt(i - 1);
            char b = s.charAt(i);
            return letter(a) && digit(b) || digit(a) && letter(b);
        }

        String peekWord() {
            blanks();
            if (sticks()) {
                return "";
            }
            int j = i;
            while (j < s.length() && letter(s.charAt(j))) {
                j++;
            }
            return s.substring(i, j);
        }

        char peek() {
            blanks();
            return i < s.length() ? s.charAt(i) : 0;
        }

        boolean ended() {
            blanks();
            return i >= s.length();
        }

        Fault here() {
            blanks();
            return new Fault(1, i);
        }

        boolean word(String w) {
            if (peekWord().equals(w)) {
                i += w.length();
                return true;
            }
            return false;
        }

        boolean sign(char c) {
            if (!ended() && s.charAt(i) == c) {
                i++;
                return true;
            }
            return false;
        }

        void mustWord(String w) {
            if (!word(w)) {
                throw here();
            }
        }

        void mustSign(char c) {
            if (!sign(c)) {
                throw here();
            }
        }

        int number(int most) {
            blanks();
            if (i >= s.length() || !digit(s.charAt(i)) || sticks()) {
                throw here();
            }
            int from = i;
            while (i < s.length() && digit(s.charAt(i))) {
                if (i - from == 4) {
                    throw new Fault(1, i);
                }
                i++;
            }
            int n = Integer.parseInt(s.substring(from, i));
            if (n > most) {
                throw new Fault(2, from);
            }
            return n;
        }

        String name() {
            String w = peekWord();
            if (w.isEmpty() || OWN.contains(w)) {
                throw here();
            }
            if (w.length() > 6) {
                throw new Fault(1, i + 6);
            }
            i += w.length();
            return w;
        }

        /** Counts an opening one that stands at a place. */
        void opens(int place) {
            if (open == 6) {
                throw new Fault(4, place);
            }
            open++;
        }

        static int held(long n) {
            return (int) Math.max(-1000000L, Math.min(1000000L, n));
        }

        Expr sum(List<String> facts, boolean wins) {
            Expr a = product(facts, wins);
            while (true) {
                Expr left = a;
                if (sign('+')) {
                    Expr right = product(facts, wins);
                    a = f -> held((long) left.of(f) + right.of(f));
                } else if (sign('-')) {
                    Expr right = product(facts, wins);
                    a = f -> held((long) left.of(f) - right.of(f));
                } else {
                    return a;
                }
            }
        }

        Expr product(List<String> facts, boolean wins) {
            Expr a = part(facts, wins);
            while (true) {
                Expr left = a;
                if (sign('*')) {
                    Expr right = part(facts, wins);
                    a = f -> held((long) left.of(f) * right.of(f));
                } else if (sign('/')) {
                    Expr right = part(facts, wins);
                    a = f -> {
                        int r = right.of(f);
                        return r == 0 ? 0 : (int) Math.floor((double) left.of(f) / r);
                    };
                } else {
                    return a;
                }
            }
        }

        Expr part(List<String> facts, boolean wins) {
            String w = peekWord();
            if (digit(peek())) {
                int n = number(9999);
                return f -> n;
            }
            if (facts.contains(w)) {
                i += w.length();
                return f -> f.get(w);
            }
            if (wins && w.equals("wins")) {
                opens(i);
                i += 4;
                Expr k = part(facts, wins);
                open--;
                return f -> f.getOrDefault("cracker " + k.of(f), 0);
            }
            boolean two = w.equals("min") || w.equals("max");
            i += two ? 3 : 0;
            if (peek() != '(') {
                throw here();
            }
            opens(i);
            i++;
            Expr a = sum(facts, wins);
            Expr b = null;
            if (two) {
                mustSign(',');
                b = sum(facts, wins);
            }
            mustSign(')');
            open--;
            Expr c = b;
            if (!two) {
                return a;
            }
            return w.equals("min") ? f -> Math.min(a.of(f), c.of(f)) : f -> Math.max(a.of(f), c.of(f));
        }

        Expr test() {
            Expr a = both();
            while (word("or")) {
                Expr l = a;
                Expr r = both();
                a = f -> Math.max(l.of(f), r.of(f));
            }
            return a;
        }

        Expr both() {
            Expr a = fact();
            while (word("and")) {
                Expr l = a;
                Expr r = fact();
                a = f -> Math.min(l.of(f), r.of(f));
            }
            return a;
        }

        Expr fact() {
            String w = peekWord();
            if (w.equals("not")) {
                opens(i);
                i += 3;
                Expr a = fact();
                open--;
                return f -> a.of(f) == 0 ? 1 : 0;
            }
            if (w.equals("all")) {
                i += 3;
                return f -> 1;
            }
            if (peek() == '[') {
                opens(i);
                i++;
                Expr a = test();
                mustSign(']');
                open--;
                return a;
            }
            Expr a = sum(ASKED, true);
            char c = peek();
            if (c != '<' && c != '>' && c != '=') {
                throw here();
            }
            i++;
            Expr b = sum(ASKED, true);
            return f -> {
                int x = a.of(f);
                int y = b.of(f);
                return (c == '<' ? x < y : c == '>' ? x > y : x == y) ? 1 : 0;
            };
        }
    }

    static final List<String> HANDS_FACTS = Arrays.asList("arm", "low", "other", "seam", "paper", "thumb");
    static final List<String> ASKED = Arrays.asList("number", "right", "left", "hats", "thumb");

    static final class Rules {
        Map<String, Integer> boxes = new TreeMap<>();
        List<String> boxNames = new ArrayList<>();
        int bang = 100;
        Expr pull;
        Expr slip;
        int statements;
        List<Person> people = new ArrayList<>();
    }

    static Person find(Rules t, Reader r) {
        r.blanks();
        int at = r.i;
        String name = r.name();
        for (Person p : t.people) {
            if (p.name.equals(name)) {
                return p;
            }
        }
        throw new Fault(3, at);
    }

    static String fresh(Rules t, Reader r) {
        r.blanks();
        int at = r.i;
        String name = r.name();
        for (Person p : t.people) {
            if (p.name.equals(name)) {
                throw new Fault(3, at);
            }
        }
        if (t.boxes.containsKey(name)) {
            throw new Fault(3, at);
        }
        return name;
    }

    static Rules rules(String s) {
        Reader r = new Reader(s);
        Rules t = new Rules();
        while (!r.ended()) {
            int at = r.i;
            if (t.statements == 60) {
                throw new Fault(5, at);
            }
            if (r.word("person")) {
                if (t.people.size() == 8) {
                    throw new Fault(5, at);
                }
                Person p = new Person();
                p.name = fresh(t, r);
                p.number = t.people.size();
                r.mustWord("right");
                p.arm[0] = r.number(99);
                r.mustWord("left");
                p.arm[1] = r.number(99);
                t.people.add(p);
            } else if (r.word("holds")) {
                Person p = find(t, r);
                int hand = r.word("right") ? 0 : 1;
                if (hand == 1) {
                    r.mustWord("left");
                }
                int grip = GRIPS.indexOf(r.peekWord());
                if (grip < 0) {
                    throw r.here();
                }
                r.i += 5 - (grip == 0 ? 1 : 0);
                p.grip[hand] = grip;
                p.low[hand] = r.number(9);
            } else if (r.word("box")) {
                if (t.boxes.size() == 4) {
                    throw new Fault(5, at);
                }
                String name = fresh(t, r);
                r.mustWord("duds");
                t.boxes.put(name, r.number(100));
                t.boxNames.add(name);
            } else if (r.word("hats")) {
                Person p = find(t, r);
                p.hats = r.number(9);
            } else if (r.word("pull")) {
                if (t.pull != null) {
                    throw new Fault(5, at);
                }
                t.pull = r.sum(HANDS_FACTS, false);
            } else if (r.word("slip")) {
                if (t.slip != null) {
                    throw new Fault(5, at);
                }
                t.slip = r.sum(HANDS_FACTS, false);
            } else if (r.word("bang")) {
                t.bang = r.number(100);
            } else {
                throw r.here();
            }
            r.mustSign(';');
            t.statements++;
        }
        return t;
    }

    // ---- the state

    final List<Integer> tape = new ArrayList<>();
    Rules rules = new Rules();
    World now = new World();
    final ArrayDeque<World> past = new ArrayDeque<>();
    long seed = 1;
    int fault = 0;
    int place = -1;
    int[] image = {};
    final int[] refused = new int[6];

    int no(int kind) {
        refused[kind]++;
        return -1;
    }

    boolean not(int kind) {
        refused[kind]++;
        return false;
    }

    String takeTape() {
        StringBuilder b = new StringBuilder();
        for (int x : tape) {
            b.append((char) x);
        }
        tape.clear();
        return b.toString();
    }

    int n() {
        return now.row.size();
    }

    int crackers() {
        return n() > 1 ? n() : 0;
    }

    boolean sits(int seat) {
        return 0 <= seat && seat < n();
    }

    public int feed(int a, int b, int c, int d, int e) {
        if (tape.size() > 1580) {
            return no(0);
        }
        for (int x : new int[] {a, b, c, d, e}) {
            for (int k = 3; k >= 0; k--) {
                tape.add(x >>> 8 * k & 255);
            }
        }
        return tape.size();
    }

    public boolean end(int n) {
        if (n < 0 || n > tape.size()) {
            return not(0);
        }
        while (tape.size() > n) {
            tape.remove(tape.size() - 1);
        }
        return true;
    }

    public int table() {
        try {
            Rules t = rules(takeTape());
            fault = 0;
            place = -1;
            rules = t;
            now = new World();
            for (Person p : t.people) {
                now.row.add(p.copy());
            }
            past.clear();
            return t.statements;
        } catch (Fault f) {
            fault = f.kind;
            place = f.place;
            return no(1);
        }
    }

    public int fault(int what) {
        return what == 0 ? fault : what == 1 ? place : -1;
    }

    public int has(int what) {
        int hats = 0;
        int without = 0;
        for (Person p : now.row) {
            hats += p.hats;
            without += p.hats == 0 ? 1 : 0;
        }
        int[] all = {n(), crackers(), rules.boxes.size(), rules.bang, now.dinners, now.bangs, now.under, hats, without,
            past.size()};
        return what >= 0 && what < all.length ? all[what] : -1;
    }

    public int letter(int kind, int which, int k) {
        String name;
        if (kind == 0 && sits(which)) {
            name = now.row.get(which).name;
        } else if (kind == 1 && which >= 0 && which < rules.boxes.size()) {
            name = rules.boxNames.get(which);
        } else {
            return -1;
        }
        if (k < 0 || k > 5) {
            return -1;
        }
        return k < name.length() ? name.charAt(k) - 96 : 0;
    }

    public int seat(int seat, int what) {
        if (!sits(seat) || what < 0 || what > 7) {
            return -1;
        }
        Person p = now.row.get(seat);
        return new int[] {p.number, p.hats, p.arm[0], p.arm[1], p.grip[0], p.grip[1], p.low[0], p.low[1]}[what];
    }

    public int box(int box) {
        return box >= 0 && box < rules.boxes.size() ? rules.boxes.get(rules.boxNames.get(box)) : -1;
    }

    int of(Expr e, int without, int most, Person p, int hand, Person q) {
        if (e == null) {
            return without;
        }
        Map<String, Integer> f = new HashMap<>();
        f.put("arm", p.arm[hand]);
        f.put("low", p.low[hand]);
        f.put("other", q.low[1 - hand]);
        for (int g = 0; g < 3; g++) {
            f.put(GRIPS.get(g), p.grip[hand] == g ? 1 : 0);
        }
        return Math.max(0, Math.min(most, e.of(f)));
    }

    /** MIGHT, MIGHT, SLIP, SLIP, who has it: of the right HAND of one, the left one of another. */
    int[] between(Person p, Person q) {
        int a = of(rules.pull, p.arm[0], 999, p, 0, q);
        int b = of(rules.pull, q.arm[1], 999, q, 1, p);
        int s = of(rules.slip, 0, 100, p, 0, q);
        int t = of(rules.slip, 0, 100, q, 1, p);
        int r = a + b == 0 ? 50 : 100 * a / (a + b);
        int both = (100 - s) * (100 - t);
        int f = both * r / 100;
        return new int[] {a, b, s, t, (100 - s) * t + f, s * (100 - t) + both - f, s * t};
    }

    int[] at(List<Person> row, int k) {
        return between(row.get(k), row.get((k + 1) % row.size()));
    }

    public int cracker(int cracker, int what) {
        if (cracker < 0 || cracker >= crackers() || what < 0 || what > 6) {
            return -1;
        }
        return at(now.row, cracker)[what];
    }

    // ---- odds

    interface Outcome {
        void is(int[] hats, BigInteger ways);
    }

    /** All outcomes of a DINNER with their ways, of 10000 to the number of CRACKERS. */
    static void outcomes(int[][] crackers, int k, int[] hats, BigInteger ways, Outcome o) {
        if (ways.signum() == 0) {
            return;
        }
        if (k == crackers.length) {
            o.is(hats, ways);
            return;
        }
        int next = (k + 1) % crackers.length;
        hats[k]++;
        outcomes(crackers, k + 1, hats, ways.multiply(BigInteger.valueOf(crackers[k][4])), o);
        hats[k]--;
        hats[next]++;
        outcomes(crackers, k + 1, hats, ways.multiply(BigInteger.valueOf(crackers[k][5])), o);
        hats[next]--;
        outcomes(crackers, k + 1, hats, ways.multiply(BigInteger.valueOf(crackers[k][6])), o);
    }

    int[][] all(List<Person> row) {
        int[][] c = new int[row.size()][];
        for (int k = 0; k < c.length; k++) {
            c[k] = at(row, k);
        }
        return c;
    }

    static int part(BigInteger ways, int crackers, int parts) {
        return ways.multiply(BigInteger.valueOf(parts)).divide(BigInteger.valueOf(10000).pow(crackers)).intValue();
    }

    public int odds(int seat, int hats) {
        if (!sits(seat) || hats < 0 || hats > 2 || crackers() == 0) {
            return -1;
        }
        BigInteger[] sum = {BigInteger.ZERO};
        outcomes(all(now.row), 0, new int[n()], BigInteger.ONE, (h, w) -> {
            if (h[seat] == hats) {
                sum[0] = sum[0].add(w);
            }
        });
        return part(sum[0], n(), 1000000);
    }

    public int mean(int hats) {
        if (hats < 0 || hats > 2 || crackers() == 0) {
            return -1;
        }
        BigInteger[] sum = {BigInteger.ZERO};
        outcomes(all(now.row), 0, new int[n()], BigInteger.ONE, (h, w) -> {
            for (int x : h) {
                if (x == hats) {
                    sum[0] = sum[0].add(w);
                }
            }
        });
        return part(sum[0], n(), 1000);
    }

    public int most() {
        if (crackers() == 0) {
            return -1;
        }
        int[] best = {0};
        outcomes(all(now.row), 0, new int[n()], BigInteger.ONE, (h, w) -> {
            int without = 0;
            for (int x : h) {
                without += x == 0 ? 1 : 0;
            }
            best[0] = Math.max(best[0], without);
        });
        return best[0];
    }

    static long without(int[][] crackers) {
        long sum = 0;
        int n = crackers.length;
        for (int k = 0; k < n; k++) {
            sum += (10000L - crackers[k][4]) * (10000L - crackers[(k + n - 1) % n][5]);
        }
        return sum;
    }

    long fewest;
    int[] bestRow;

    /** Rows in the order of the seats, so that the first of like ones is found first. */
    void rows(int[] row, int k) {
        if (k == row.length) {
            int[][] c = new int[row.length][];
            for (int i = 0; i < c.length; i++) {
                c[i] = between(now.row.get(row[i]), now.row.get(row[(i + 1) % c.length]));
            }
            long sum = without(c);
            if (bestRow == null || sum < fewest) {
                fewest = sum;
                bestRow = row.clone();
            }
            return;
        }
        for (int p = 1; p < row.length; p++) {
            boolean taken = false;
            for (int i = 1; i < k; i++) {
                taken |= row[i] == p;
            }
            if (!taken) {
                row[k] = p;
                rows(row, k + 1);
            }
        }
    }

    public int seats(int k) {
        if (crackers() == 0 || k < -1 || k >= n()) {
            return -1;
        }
        bestRow = null;
        rows(new int[n()], 1);
        return k == -1 ? (int) (fewest / 100000) : bestRow[k];
    }

    int chance(List<Person> row, int seat, int hand) {
        return hand == 0 ? at(row, seat)[4] : at(row, (seat + row.size() - 1) % row.size())[5];
    }

    int chance(List<Person> row, int seat, int hand, int hold) {
        Person p = row.get(seat);
        int g = p.grip[hand];
        int l = p.low[hand];
        p.grip[hand] = hold / 10;
        p.low[hand] = hold % 10;
        int c = chance(row, seat, hand);
        p.grip[hand] = g;
        p.low[hand] = l;
        return c;
    }

    int bestHold(List<Person> row, int seat, int hand) {
        int best = 0;
        for (int hold = 29; hold >= 0; hold--) {
            if (chance(row, seat, hand, hold) >= chance(row, seat, hand, best)) {
                best = hold;
            }
        }
        return best;
    }

    public int best(int seat, int hand, int what) {
        if (!sits(seat) || crackers() == 0 || hand < 0 || hand > 1 || what < 0 || what > 1) {
            return -1;
        }
        int best = bestHold(now.row, seat, hand);
        return what == 0 ? best : chance(now.row, seat, hand, best);
    }

    public int rests(int seat, int hand) {
        if (crackers() == 0 || seat != -1 && (!sits(seat) || hand < 0 || hand > 1)) {
            return -1;
        }
        World w = now.copy();
        int round = 1;
        while (round <= 12) {
            boolean same = true;
            for (int s = 0; s < n(); s++) {
                for (int h = 0; h < 2; h++) {
                    int best = bestHold(w.row, s, h);
                    if (chance(w.row, s, h, best) != chance(w.row, s, h)) {
                        w.row.get(s).grip[h] = best / 10;
                        w.row.get(s).low[h] = best % 10;
                        same = false;
                    }
                }
            }
            if (same) {
                break;
            }
            round++;
        }
        return seat == -1 ? round : 10 * w.row.get(seat).grip[hand] + w.row.get(seat).low[hand];
    }

    static BigInteger row(int p, int whole, int n, int w) {
        return BigInteger.valueOf(p).pow(w).multiply(BigInteger.valueOf(whole - p).pow(n - w));
    }

    static int thousandths(BigInteger a, BigInteger all, int without) {
        return all.signum() == 0 ? without : a.multiply(BigInteger.valueOf(1000)).divide(all).intValue();
    }

    public int thumb(int seat, int hand, int n, int w) {
        if (!sits(seat) || crackers() == 0 || hand < 0 || hand > 1 || n < 1 || n > 3 || w < 0 || w > n) {
            return -1;
        }
        int low = now.row.get(seat).low[hand];
        BigInteger t = row(chance(now.row, seat, hand, 20 + low), 10000, n, w);
        BigInteger s = row(chance(now.row, seat, hand, low), 10000, n, w);
        return thousandths(t, t.add(s), 500);
    }

    public int duds(int m, int d, int what) {
        if (rules.boxes.isEmpty() || m < 1 || m > 6 || d < 0 || d > m || what < 0 || what > 1) {
            return -1;
        }
        BigInteger all = BigInteger.ZERO;
        BigInteger most = BigInteger.valueOf(-1);
        int which = 0;
        for (int b = 0; b < rules.boxNames.size(); b++) {
            BigInteger x = row(box(b), 100, m, d);
            all = all.add(x);
            if (x.compareTo(most) > 0) {
                most = x;
                which = b;
            }
        }
        return what == 0 ? which : thousandths(most, all, 0);
    }

    public int pairs() {
        if (crackers() == 0) {
            return -1;
        }
        int parts = n() % 2 * 10000;
        for (int k = 0; k + 1 < n(); k += 2) {
            int[] c = at(now.row, k);
            parts += 10000 - c[4] + 10000 - c[5];
        }
        return parts / 10;
    }

    /** Every one without a HAT is sent one from somebody who can spare it; all matchings are tried. */
    int match(int[] hats, int who) {
        int n = hats.length;
        if (who == n) {
            return 0;
        }
        if (hats[who] > 0) {
            return match(hats, who + 1);
        }
        int best = 1000000;
        for (int from = 0; from < n; from++) {
            if (hats[from] > 1) {
                hats[from]--;
                int far = Math.abs(from - who);
                best = Math.min(best, Math.min(far, n - far) + match(hats, who + 1));
                hats[from]++;
            }
        }
        return best;
    }

    int[] hats() {
        int[] hats = new int[n()];
        for (int s = 0; s < hats.length; s++) {
            hats[s] = now.row.get(s).hats;
        }
        return hats;
    }

    public int gifts() {
        return crackers() == 0 || has(7) < n() ? -1 : match(hats(), 0);
    }

    static int giveLeft(int[] hats) {
        int[] before = hats.clone();
        int n = hats.length;
        int gave = 0;
        for (int s = 0; s < n; s++) {
            if (before[s] > 1) {
                gave++;
                hats[s]--;
                hats[(s + 1) % n]++;
            }
        }
        return gave;
    }

    public int left(int what) {
        if (crackers() == 0 || what < 0 || what > 1) {
            return -1;
        }
        int[] hats = hats();
        int gave = 0;
        for (int round = 0; round <= 60; round++) {
            if (Arrays.stream(hats).allMatch(h -> h > 0)) {
                return what == 0 ? round : gave;
            }
            gave += giveLeft(hats);
        }
        return -1;
    }

    // ---- acts

    void act() {
        past.addLast(now.copy());
        if (past.size() > 20) {
            past.removeFirst();
        }
    }

    int draw(int m) {
        seed = (1103515245L * seed + 12345L) % 2147483648L;
        return (int) (seed / 64 % m);
    }

    public int dine(int n) {
        if (n < 1 || n > 50 || crackers() == 0 || now.dinners + n > 9999) {
            return no(2);
        }
        act();
        int bangs = 0;
        for (int i = 0; i < n; i++) {
            for (int k = 0; k < n(); k++) {
                int[] c = at(now.row, k);
                int x = draw(10000);
                if (x < c[4] + c[5]) {
                    Person p = now.row.get(x < c[4] ? k : (k + 1) % n());
                    p.hats = Math.min(99, p.hats + 1);
                } else {
                    now.under = Math.min(9999, now.under + 1);
                }
                if (draw(100) < rules.bang) {
                    bangs++;
                    now.bangs = Math.min(9999, now.bangs + 1);
                }
            }
            now.dinners++;
        }
        return bangs;
    }

    public boolean hold(int seat, int hand, int grip, int low) {
        if (!sits(seat) || hand < 0 || hand > 1 || grip < 0 || grip > 2 || low < 0 || low > 9) {
            return not(2);
        }
        act();
        now.row.get(seat).grip[hand] = grip;
        now.row.get(seat).low[hand] = low;
        return true;
    }

    public boolean give(int from, int to) {
        if (!sits(from) || !sits(to) || from == to || now.row.get(from).hats == 0 || now.row.get(to).hats == 99) {
            return not(3);
        }
        act();
        now.row.get(from).hats--;
        now.row.get(to).hats++;
        return true;
    }

    public int pass() {
        if (crackers() == 0) {
            return no(3);
        }
        act();
        int[] hats = hats();
        int gave = giveLeft(hats);
        for (int s = 0; s < hats.length; s++) {
            now.row.get(s).hats = Math.min(99, hats[s]);
        }
        return gave;
    }

    public boolean change(int first, int second) {
        if (!sits(first) || !sits(second) || first == second) {
            return not(3);
        }
        act();
        Person p = now.row.get(first);
        now.row.set(first, now.row.get(second));
        now.row.set(second, p);
        return true;
    }

    public boolean undo() {
        if (past.isEmpty()) {
            return not(4);
        }
        now = past.removeLast();
        return true;
    }

    public boolean seed(int seed) {
        if (seed < 0) {
            return not(5);
        }
        this.seed = seed;
        return true;
    }

    // ---- questions

    public long ask() {
        Reader r = new Reader(takeTape());
        try {
            String w = r.peekWord();
            int kind = Arrays.asList("first", "last", "often", "total", "most", "least").indexOf(w);
            if (kind < 0) {
                throw r.here();
            }
            r.i += w.length();
            Expr e = kind < 3 ? r.test() : r.sum(ASKED, true);
            if (!r.ended()) {
                throw r.here();
            }
            fault = 0;
            place = -1;
            return answer(kind, e);
        } catch (Fault f) {
            fault = f.kind;
            place = f.place;
            return -1000000000000000L;
        }
    }

    long answer(int kind, Expr e) {
        List<Integer> values = new ArrayList<>();
        List<Integer> holds = new ArrayList<>();
        for (int s = 0; s < n(); s++) {
            Person p = now.row.get(s);
            Map<String, Integer> f = new HashMap<>();
            f.put("number", s);
            f.put("right", p.arm[0]);
            f.put("left", p.arm[1]);
            f.put("hats", p.hats);
            f.put("thumb", (p.grip[0] == 2 ? 1 : 0) + (p.grip[1] == 2 ? 1 : 0));
            if (crackers() > 0) {
                f.put("cracker " + s, chance(now.row, s, 0));
                f.put("cracker " + (s + n() - 1) % n(), chance(now.row, s, 1));
            }
            values.add(e.of(f));
            if (values.get(s) != 0) {
                holds.add(s);
            }
        }
        switch (kind) {
            case 0: return holds.isEmpty() ? -1 : holds.get(0);
            case 1: return holds.isEmpty() ? -1 : holds.get(holds.size() - 1);
            case 2: return holds.size();
            case 3: return values.stream().mapToLong(v -> v).sum();
            case 4: return values.stream().mapToInt(v -> v).max().orElse(0);
            default: return values.stream().mapToInt(v -> v).min().orElse(0);
        }
    }

    // ---- images

    public int image() {
        List<Integer> b = new ArrayList<>(Arrays.asList(now.dinners >> 8, now.dinners & 255, now.bangs >> 8,
            now.bangs & 255, now.under >> 8, now.under & 255));
        for (Person p : now.row) {
            b.addAll(Arrays.asList(p.number, p.hats, p.grip[0], p.low[0], p.grip[1], p.low[1]));
        }
        image = Due.image(b.stream().mapToInt(v -> v).toArray());
        return image.length;
    }

    public int octet(int k) {
        return k >= 0 && k < image.length ? image[k] : -1;
    }

    public boolean restore() {
        int[] b = takeTape().chars().toArray();
        if (b.length != 7 + 6 * n() || !Arrays.equals(b, Due.image(Arrays.copyOf(b, b.length - 1)))) {
            return not(5);
        }
        World w = new World();
        w.dinners = 256 * b[0] + b[1];
        w.bangs = 256 * b[2] + b[3];
        w.under = 256 * b[4] + b[5];
        if (w.dinners > 9999 || w.bangs > 9999 || w.under > 9999) {
            return not(5);
        }
        boolean[] seated = new boolean[256];
        for (int s = 0; s < n(); s++) {
            int[] x = Arrays.copyOfRange(b, 6 + 6 * s, 12 + 6 * s);
            if (x[0] >= n() || seated[x[0]] || x[1] > 99 || x[2] > 2 || x[3] > 9 || x[4] > 2 || x[5] > 9) {
                return not(5);
            }
            seated[x[0]] = true;
            Person p = rules.people.get(x[0]).copy();
            p.hats = x[1];
            p.grip = new int[] {x[2], x[4]};
            p.low = new int[] {x[3], x[5]};
            w.row.add(p);
        }
        now = w;
        past.clear();
        return true;
    }

    public int status(int what) {
        return what >= 0 && what < 6 ? refused[what] : -1;
    }
}
