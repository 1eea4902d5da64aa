import java.util.Arrays;

/** The edges that Terms II and III name, of the ring, of odds, of HATS handed on: each sentence a test of its own. */
public final class EdgeRingTest {
    private static final Edge EDGE = new Edge("EdgeRingTest");
    private static final String TWO = Due.people(6, 4, 3, 2);
    private static final String THREE = Due.people(6, 4, 3, 2, 9, 8);
    private static final String TWO_ALIKE = Due.people(1, 2, 1, 2);
    /** 1 if the HAND is as low as the other one, else 0. */
    private static final String AS_LOW = "(1-min(1,max(low-other,other-low)))";

    private static String alike(int people, int right, int left) {
        int[] arms = new int[2 * people];
        for (int i = 0; i < people; i++) {
            arms[2 * i] = right;
            arms[2 * i + 1] = left;
        }
        return Due.people(arms);
    }

    private static CrackerRing hats(int... hats) {
        CrackerRing x = Due.with(alike(hats.length, 0, 0));
        restoreHats(x, hats);
        return x;
    }

    private static void restoreHats(CrackerRing x, int... hats) {
        int[] bytes = new int[6 + 6 * hats.length];
        for (int i = 0; i < hats.length; i++) {
            bytes[6 + 6 * i] = i;
            bytes[7 + 6 * i] = hats[i];
            bytes[9 + 6 * i] = 5;
            bytes[11 + 6 * i] = 5;
        }
        EDGE.is("restore() of HATS " + Arrays.toString(hats), Due.restore(x, Due.image(bytes)), true);
    }

    private static void behindTheLast() {
        EDGE.sentence(10, "CRACKER k is between the right HAND of the k-th and the left HAND of the next one (behind the last one the first one);");
        CrackerRing x = Due.with(Due.people(1, 2, 3, 4, 5, 6));
        EDGE.tells(x, 0, 1, 4);
        EDGE.tells(x, 1, 3, 6);
        EDGE.tells(x, 2, 5, 2);
        EDGE.is("cracker(3, 0)", x.cracker(3, 0), -1);
        x = Due.with(Due.people(1, 2, 3, 4));
        EDGE.tells(x, 0, 1, 4);
        EDGE.tells(x, 1, 3, 2);
        x = Due.with(Due.people(1, 2, 3, 4, 5, 6, 7, 8, 9, 10, 11, 12, 13, 14, 15, 16));
        EDGE.tells(x, 6, 13, 16);
        EDGE.tells(x, 7, 15, 2);
        EDGE.is("cracker(8, 0)", x.cracker(8, 0), -1);
        x.change(0, 7);
        EDGE.tells(x, 7, 1, 16);
        EDGE.tells(x, 6, 13, 2);
        EDGE.tells(x, 0, 15, 4);
    }

    private static void fewerThanTwo() {
        EDGE.sentence(10, "with fewer than two PEOPLE there is none.");
        EDGE.is("nobody", new CrackerRing().has(1), 0);
        EDGE.is("nobody", new CrackerRing().cracker(0, 0), -1);
        CrackerRing x = Due.with(Due.people(5, 5));
        EDGE.is("one alone", x.has(1), 0);
        for (int what = 0; what < 7; what++) {
            EDGE.is("one alone, cracker(0, " + what + ")", x.cracker(0, what), -1);
        }
        EDGE.is("two", Due.with(TWO).has(1), 2);
        EDGE.is("two", Due.with(TWO).cracker(1, 0), 3);
    }

    private static void mights() {
        EDGE.sentence(10, "MIGHT of a HAND is the SUM of pull, 0 .. 999 (below is 0, above 999; its arm without);");
        int[][] sums = {{0, 0}, {1, 1}, {998, 998}, {999, 999}, {1000, 999}, {9999, 999}};
        for (int[] s : sums) {
            EDGE.tells(Due.with(TWO + "pull " + s[0] + ";"), 0, s[1], s[1]);
        }
        EDGE.tells(Due.with(TWO + "pull 0-1;"), 0, 0, 0);
        EDGE.tells(Due.with(TWO + "pull 0-9999*9999;"), 0, 0, 0);
        EDGE.tells(Due.with(TWO + "pull 9999*9999;"), 0, 999, 999);
        EDGE.tells(Due.with(TWO), 0, 6, 2);
        EDGE.tells(Due.with(Due.people(99, 0, 0, 99)), 0, 99, 99, 0, 0, 5000, 5000, 0);
        // below is 0 for the one, above is 999 for the other one
        EDGE.tells(Due.with(TWO + "pull (arm-4)*5000;"), 0, 999, 0, 0, 0, 10000, 0, 0);
    }

    private static void slips() {
        EDGE.sentence(10, "SLIP the SUM of slip, 0 .. 100 (0 without).");
        int[][] sums = {{0, 0}, {1, 1}, {99, 99}, {100, 100}, {101, 100}, {9999, 100}};
        for (int[] s : sums) {
            CrackerRing x = Due.with(TWO + "slip " + s[0] + ";");
            EDGE.is("SLIP of " + s[0], x.cracker(0, 2), s[1]);
            EDGE.is("SLIP of " + s[0], x.cracker(0, 3), s[1]);
        }
        EDGE.tells(Due.with(TWO + "slip 0-1;"), 0, 6, 2, 0, 0, 7500, 2500, 0);
        EDGE.tells(Due.with(TWO + "slip 0-9999*9999;"), 0, 6, 2, 0, 0, 7500, 2500, 0);
        EDGE.tells(Due.with(TWO), 0, 6, 2, 0, 0, 7500, 2500, 0);
    }

    private static void shareOfMights() {
        EDGE.sentence(10, "R is floor(100 MIGHT of the right one / both MIGHTS together), 50 if both are 0.");
        EDGE.tells(Due.with(Due.people(1, 0, 0, 2)), 0, 1, 2, 0, 0, 3300, 6700, 0);
        EDGE.tells(Due.with(Due.people(2, 0, 0, 1)), 0, 2, 1, 0, 0, 6600, 3400, 0);
        EDGE.tells(Due.with(Due.people(0, 0, 0, 0)), 0, 0, 0, 0, 0, 5000, 5000, 0);
        EDGE.tells(Due.with(Due.people(0, 0, 0, 1)), 0, 0, 1, 0, 0, 0, 10000, 0);
        EDGE.tells(Due.with(Due.people(1, 0, 0, 0)), 0, 1, 0, 0, 0, 10000, 0, 0);
        EDGE.tells(Due.with(Due.people(99, 0, 0, 0) + "pull arm*11+1;"), 0, 999, 1, 0, 0, 9900, 100, 0);
        EDGE.tells(Due.with(Due.people(0, 0, 0, 99) + "pull arm*11+1;"), 0, 1, 999, 0, 0, 0, 10000, 0);
        EDGE.tells(Due.with(TWO + "pull 0-arm;"), 0, 0, 0, 0, 0, 5000, 5000, 0);
    }

    private static void ofTenThousand() {
        EDGE.sentence(10, "B = (100 - s) (100 - t), F = floor(B R / 100): the right HAND has it in (100 - s) t + F, the left one in s (100 - t) + B - F, nobody in s t (it is under the table).");
        // B = 9801, R = 33: 323433 / 100
        EDGE.tells(Due.with(Due.people(1, 2, 1, 2) + "slip 1;"), 0, 1, 2, 1, 1, 99 + 3234, 99 + 6567, 1);
        // s = 7, t = 29: B = 93 * 71 = 6603, R = 66: 435798 / 100
        EDGE.tells(Due.with(Due.people(2, 1, 2, 1) + "slip 7*(arm/2)+29*(1-arm/2);"), 0, 2, 1, 7, 29,
            93 * 29 + 4357, 7 * 71 + 6603 - 4357, 7 * 29);
        EDGE.tells(Due.with(TWO + "slip 100;"), 0, 6, 2, 100, 100, 0, 0, 10000);
        EDGE.tells(Due.with(TWO + "slip 100*(1-min(1,arm-2));"), 0, 6, 2, 0, 100, 10000, 0, 0);
        EDGE.tells(Due.with(TWO + "slip 100*(arm/6);"), 0, 6, 2, 100, 0, 0, 10000, 0);
        EDGE.tells(Due.with(TWO + "slip 99;"), 0, 6, 2, 99, 99, 99, 99 + 1, 9801);
    }

    private static int seedByDraws(int[] of, int... wanted) {
        for (int seed = 0; seed < 100000000; seed++) {
            if (Arrays.equals(Edge.draws(seed, of), wanted)) {
                return seed;
            }
        }
        throw new IllegalStateException("no such seed");
    }

    /** Of the first CRACKER the right HAND has 6975, the left one 2925, nobody 100; the second one nobody has. */
    private static String oneCracker() {
        String six = "(1-min(1,max(arm-6,6-arm)))";
        String two = "(1-min(1,max(arm-2,2-arm)))";
        return TWO + "slip 100-90*" + six + "-90*" + two + ";";
    }

    private static void drawn(int draw, int right, int left, int under) {
        CrackerRing x = Due.with(oneCracker());
        EDGE.tells(x, 0, 6, 2, 10, 10, 6975, 2925, 100);
        EDGE.tells(x, 1, 3, 4, 100, 100, 0, 0, 10000);
        x.seed(seedByDraws(new int[] {10000}, draw));
        EDGE.is("dine(1) by a DRAW of " + draw, x.dine(1), 2);
        EDGE.is("the right one's HATS by " + draw, x.seat(0, 1), right);
        EDGE.is("the left one's HATS by " + draw, x.seat(1, 1), left);
        EDGE.is("under the table by " + draw, x.has(6), under + 1);
    }

    private static void whoHasIt() {
        EDGE.sentence(22, "CRACKER by CRACKER a DRAW of 10000: below what the right HAND has: that one has it; below both together: the left one; else nobody;");
        drawn(0, 1, 0, 0);
        drawn(6974, 1, 0, 0);
        drawn(6975, 0, 1, 0);
        drawn(9899, 0, 1, 0);
        drawn(9900, 0, 0, 1);
        drawn(9999, 0, 0, 1);
    }

    private static void banged(int bang, int first, int second, int due) {
        CrackerRing x = Due.with(TWO + "slip 100;bang " + bang + ";");
        int[] of = {10000, 100, 10000, 100};
        for (int seed = 0; seed < 10000000; seed++) {
            int[] d = Edge.draws(seed, of);
            if (d[1] == first && d[3] == second) {
                x.seed(seed);
                break;
            }
        }
        EDGE.is("bang " + bang + ", DRAWS " + first + " and " + second, x.dine(1), due);
        EDGE.is("BANGS", x.has(5), due);
    }

    private static void whatBangs() {
        EDGE.sentence(22, "then a DRAW of 100: below bang it BANGS.");
        banged(0, 0, 0, 0);
        banged(1, 0, 1, 1);
        banged(40, 39, 40, 1);
        banged(40, 40, 39, 1);
        banged(40, 40, 41, 0);
        banged(99, 99, 98, 1);
        banged(100, 99, 99, 2);
    }

    private static void moreHats() {
        EDGE.sentence(22, "Who has it has a HAT more (99 at most; DINNERS, BANGS, those under the table are 9999 at most).");
        CrackerRing x = Due.with(Due.people(1, 0, 1, 0));
        restoreHats(x, 98, 97);
        x.dine(1);
        EDGE.is("98 and one", x.seat(0, 1), 99);
        EDGE.is("97 and one", x.seat(1, 1), 98);
        x.dine(1);
        EDGE.is("99 at most", x.seat(0, 1), 99);
        EDGE.is("98 and one", x.seat(1, 1), 99);
        x.dine(50);
        EDGE.is("99 at most", x.has(7), 198);
        EDGE.is("DINNERS", x.has(4), 52);
        x = Due.with(Due.people(0, 1, 0, 1));
        restoreHats(x, 99, 98);
        x.dine(2);
        EDGE.is("99 at most, by the left HAND", x.seat(0, 1), 99);
        EDGE.is("99 at most, by the left HAND", x.seat(1, 1), 99);
        counted(9997, 9997, 9999, 9999);
        counted(9998, 9996, 9999, 9998);
        counted(9999, 9998, 9999, 9999);
        counted(0, 9999, 2, 9999);
    }

    private static void counted(int bangs, int under, int dueBangs, int dueUnder) {
        CrackerRing x = Due.with(TWO + "slip 100;");
        Due.restore(x, Due.image(39, 14, bangs / 256, bangs % 256, under / 256, under % 256, 0, 0, 0, 5, 0, 5, 1, 0, 0, 5, 0, 5));
        EDGE.is("dine(1) at 9998 DINNERS", x.dine(1), 2);
        EDGE.is("DINNERS", x.has(4), 9999);
        EDGE.is("BANGS behind " + bangs, x.has(5), dueBangs);
        EDGE.is("under the table behind " + under, x.has(6), dueUnder);
        EDGE.is("dine(1) at 9999 DINNERS", x.dine(1), -1);
    }

    private static void twentyActs() {
        EDGE.sentence(27, "The last 20 can be undone.");
        CrackerRing x = Due.with(TWO);
        for (int n = 1; n <= 21; n++) {
            x.hold(0, 0, 0, n % 10);
            EDGE.is("ACTS that can be undone", x.has(9), Math.min(20, n));
        }
        for (int n = 20; n >= 1; n--) {
            EDGE.is("undo()", x.undo(), true);
            EDGE.is("how low then", x.seat(0, 6), n % 10);
            EDGE.is("ACTS left", x.has(9), n - 1);
        }
        EDGE.is("the 21st", x.undo(), false);
        EDGE.is("the first ACT stays", x.seat(0, 6), 1);
        for (int n = 0; n < 45; n++) {
            x.hold(0, 0, 1, n % 9);
        }
        for (int n = 43; n >= 24; n--) {
            EDGE.is("undo()", x.undo(), true);
            EDGE.is("how low then", x.seat(0, 6), n % 9);
        }
        EDGE.is("the 21st", x.undo(), false);
    }

    private static void allActs() {
        EDGE.sentence(27, "ACTS: DINNERS; a HAND holds otherwise; one gives a HAT; all seats are taken anew; each gives to the left.");
        CrackerRing x = Due.with(THREE + "hats a 3;");
        x.dine(2);
        EDGE.is("DINNERS", x.has(9), 1);
        x.hold(1, 1, 2, 3);
        EDGE.is("a HAND holds otherwise", x.has(9), 2);
        x.give(0, 2);
        EDGE.is("one gives a HAT", x.has(9), 3);
        x.change(0, 1);
        EDGE.is("all seats are taken anew", x.has(9), 4);
        x.pass();
        EDGE.is("each gives to the left", x.has(9), 5);
        x.seed(5);
        x.image();
        Due.ask(x, "total 1");
        x.seats(-1);
        x.rests(-1, 0);
        EDGE.is("nothing else", x.has(9), 5);
    }

    private static void draws() {
        EDGE.sentence(22, "A DRAW of m: x (the seed) becomes (1103515245 x + 12345) mod 2 to the 31; floor(x / 64) mod m.");
        for (int seed : new int[] {0, 1, 2, 63, 64, 12345, 1 << 30, Integer.MAX_VALUE - 1, Integer.MAX_VALUE}) {
            CrackerRing x = Due.with(Due.people(1, 1, 1, 1, 1, 1) + "slip 20;bang 50;");
            // B = 6400, R = 50: right 1600 + 3200, left likewise, nobody 400
            EDGE.tells(x, 0, 1, 1, 20, 20, 4800, 4800, 400);
            x.seed(seed);
            int[] of = new int[6 * 10];
            for (int i = 0; i < of.length; i++) {
                of[i] = i % 2 == 0 ? 10000 : 100;
            }
            int[] d = Edge.draws(seed, of);
            int[] due = new int[5];
            for (int i = 0; i < of.length; i += 2) {
                int cracker = i / 2 % 3;
                due[d[i] < 4800 ? cracker : d[i] < 9600 ? (cracker + 1) % 3 : 3]++;
                due[4] += d[i + 1] < 50 ? 1 : 0;
            }
            EDGE.is("dine(10) by seed " + seed, x.dine(10), due[4]);
            for (int seat = 0; seat < 3; seat++) {
                EDGE.is("HATS by seed " + seed, x.seat(seat, 1), due[seat]);
            }
            EDGE.is("under the table by seed " + seed, x.has(6), due[3]);
        }
    }

    private static void noneOneTwo() {
        EDGE.sentence(11, "NONE, ONE, TWO: by which odds one has so many by a DINNER;");
        // each right HAND has 3333, each left one 6666 of 10000
        CrackerRing x = Due.with(TWO_ALIKE + "slip 1;");
        EDGE.is("NONE", x.odds(0, 0), 6667 * 3334 / 100);
        EDGE.is("ONE", x.odds(0, 1), (3333 * 3334 + 6667 * 6666) / 100);
        EDGE.is("TWO", x.odds(0, 2), 3333 * 6666 / 100);
        x = Due.with(Due.people(1, 1, 0, 0) + "hats b 5;");
        EDGE.is("surely two", x.odds(0, 2), 1000000);
        EDGE.is("never one", x.odds(0, 1), 0);
        EDGE.is("surely none, whatever he has", x.odds(1, 0), 1000000);
        EDGE.sentence(12, "ON THE MEAN how many of the PEOPLE do.");
        x = Due.with(alike(8, 1, 2) + "slip 1;");
        EDGE.is("all parts together, then floor", x.mean(0), 8 * 22227778 / 100000);
        EDGE.is("ONE", x.mean(1), 8L * 55554444 / 100000);
        EDGE.is("TWO", x.mean(2), 8 * 22217778 / 100000);
        EDGE.is("none of eight", Due.with(alike(8, 1, 0)).mean(0), 0);
        EDGE.is("all of eight", Due.with(alike(8, 1, 0)).mean(1), 8000);
    }

    private static void atMost() {
        EDGE.sentence(13, "AT MOST so many have none as can be by outcomes that can be at all.");
        // by 1 of 10000 the right HAND has it though it slips in 99 of 100
        String seldom = "slip max(0,2-arm)*min(1,arm)*99;";
        CrackerRing x = Due.with(Due.people(1, 2, 0, 99) + seldom);
        EDGE.tells(x, 0, 1, 99, 99, 0, 1, 9999, 0);
        EDGE.tells(x, 1, 0, 2, 0, 0, 0, 10000, 0);
        EDGE.is("one by 1 of 10000", x.most(), 1);
        x = Due.with(Due.people(0, 2, 0, 99));
        EDGE.tells(x, 0, 0, 99, 0, 0, 0, 10000, 0);
        EDGE.is("none by 0 of 10000", x.most(), 0);
        x = Due.with(Due.people(99, 0, 9, 1) + seldom);
        EDGE.tells(x, 0, 99, 1, 0, 99, 9999, 1, 0);
        EDGE.tells(x, 1, 9, 0, 0, 0, 10000, 0, 0);
        EDGE.is("one by 1 of 10000, by the left HAND", x.most(), 1);
        EDGE.is("all, under the table", Due.with(alike(8, 1, 1) + "slip 1;").most(), 8);
        EDGE.is("half of eight", Due.with(alike(8, 1, 1)).most(), 4);
        EDGE.is("half of seven", Due.with(alike(7, 1, 1)).most(), 3);
        EDGE.is("one of two", Due.with(alike(2, 1, 1)).most(), 1);
        EDGE.is("none of two", Due.with(alike(2, 1, 0)).most(), 0);
        EDGE.is("none of eight", Due.with(alike(8, 0, 1)).most(), 0);
        EDGE.is("HATS that they have do not count", Due.with(alike(2, 1, 1) + "hats a 3;hats b 3;").most(), 1);
    }

    private static void row(CrackerRing x, int mean, int... row) {
        EDGE.is("seats(NONE)", x.seats(-1), mean);
        for (int k = 0; k < row.length; k++) {
            EDGE.is("seats(" + k + ")", x.seats(k), row[k]);
        }
        EDGE.is("seats() behind it", x.seats(row.length), -1);
    }

    private static void likeRows() {
        EDGE.sentence(14, "SEATS: the row of PEOPLE in which ON THE MEAN fewest have none (each HAND as it is); of like ones the first by PEOPLE (the first one stays first).");
        row(Due.with(alike(2, 1, 1)), 500, 0, 1);
        row(Due.with(alike(3, 1, 1)), 750, 0, 1, 2);
        row(Due.with(alike(8, 1, 1)), 2000, 0, 1, 2, 3, 4, 5, 6, 7);
        // two strong ones, two weak ones: 2 without if they sit in turn, 1 in all other rows
        CrackerRing x = Due.with(Due.people(9, 9, 0, 0, 9, 9, 0, 0));
        EDGE.is("mean(0) in turn", x.mean(0), 2000);
        row(x, 1000, 0, 1, 3, 2);
        x.change(2, 3);
        row(x, 1000, 0, 1, 2, 3);
        // a weak one is the first one, and stays there
        x = Due.with(Due.people(0, 0, 9, 9, 0, 0, 9, 9));
        row(x, 1000, 0, 1, 3, 2);
        // as they sit 0 + 99 + 1 of a hundred; the other way round 920 * 100 + 900 * 500 + 500 * 80 of a million
        x = Due.with(Due.people(9, 9, 1, 0, 0, 99));
        EDGE.is("mean(0) as it is", x.mean(0), 1000);
        row(x, 582, 0, 2, 1);
        heldAsItIs();
    }

    /** GRIPS and how low go with the HANDS to other seats. */
    private static void heldAsItIs() {
        CrackerRing x = Due.with(alike(4, 1, 1) + "pull 9*thumb;holds a right thumb 0;holds a left thumb 0;"
            + "holds c right thumb 0;holds c left thumb 0;");
        EDGE.is("mean(0) in turn", x.mean(0), 2000);
        row(x, 1000, 0, 1, 3, 2);
        x.hold(1, 0, 2, 0);
        x.hold(1, 1, 2, 0);
        x.hold(2, 0, 0, 0);
        x.hold(2, 1, 0, 0);
        row(x, 1000, 0, 1, 2, 3);
    }

    private static void best(String rules, int seat, int hand, int hold, int odds) {
        CrackerRing x = Due.with(Due.people(6, 4, 3, 2) + rules);
        EDGE.is("best() by " + rules, x.best(seat, hand, 0), hold);
        EDGE.is("odds by " + rules, x.best(seat, hand, 1), odds);
    }

    private static void likeHolds() {
        EDGE.sentence(15, "HOW TO HOLD for a HAND: the GRIP (0 seam, 1 paper, 2 thumb) and how low, by which it is likeliest to have its CRACKER, the other HAND as it is; of like ones the first GRIP, then the least low.");
        best("holds a right thumb 7;", 0, 0, 0, 7500);
        best("pull arm+paper+thumb;", 0, 0, 10, 7700);
        best("pull arm+6*thumb;", 0, 0, 20, 8500);
        best("pull arm+low/5;", 0, 0, 5, 7000);
        best("pull arm+low/9;", 0, 0, 9, 7700);
        best("pull arm+thumb*low;", 0, 0, 29, 8800);
        best("pull arm+seam*(9-low);", 0, 0, 0, 7100);
        // low 3 and low 4 are like ones: 24 of 26 and 26 of 28 are both 92 of a hundred
        best("pull arm+paper*low*(9-low);", 0, 0, 13, 9200);
        best("slip 100;", 0, 0, 0, 0);
        // the left one slips in 95, the thumb in 50: B = 250, F = 187
        best("slip 100-seam*low-thumb*50;", 0, 0, 20, 50 * 95 + 187);
    }

    private static void otherHandAsItIs() {
        EDGE.sentence(15, "the other HAND as it is;");
        best("pull " + AS_LOW + ";holds b left paper 0;", 0, 0, 0, 5000);
        best("pull arm/6*" + AS_LOW + ";holds b left paper 8;", 0, 0, 8, 10000);
        best("pull arm/6*" + AS_LOW + "*thumb;holds b left paper 9;", 0, 0, 29, 10000);
        CrackerRing x = Due.with(TWO + "pull arm*thumb;holds a right paper 3;holds b left thumb 4;");
        x.best(0, 0, 0);
        x.best(1, 1, 0);
        EDGE.is("it stays", x.seat(0, 4) * 10 + x.seat(0, 6), 13);
        EDGE.is("it stays", x.seat(1, 5) * 10 + x.seat(1, 7), 24);
        EDGE.is("nothing to undo", x.has(9), 0);
    }

    /** The HAND of arm 1 wants to be as low as the other one, that of arm 2 one lower, behind 9 at 0; for ever. */
    private static CrackerRing roundAndRound(int right, int left, int otherRight, int otherLeft) {
        String next = "(other+1-(other+1)/10*10)";
        String oneLower = "(1-min(1,max(low-" + next + "," + next + "-low)))";
        String one = "(1-min(1,max(arm-1,1-arm)))";
        String two = "(1-min(1,max(arm-2,2-arm)))";
        return Due.with(Due.people(right, left, otherRight, otherLeft)
            + "pull 10*" + one + "*" + AS_LOW + "+10*" + two + "*" + oneLower + ";");
    }

    private static void rested(CrackerRing x, int round, int aRight, int aLeft, int bRight, int bLeft) {
        EDGE.is("rests(NONE, 0)", x.rests(-1, 0), round);
        EDGE.is("rests(0, 0)", x.rests(0, 0), aRight);
        EDGE.is("rests(0, 1)", x.rests(0, 1), aLeft);
        EDGE.is("rests(1, 0)", x.rests(1, 0), bRight);
        EDGE.is("rests(1, 1)", x.rests(1, 1), bLeft);
    }

    private static void twelveRounds() {
        EDGE.sentence(16, "till a round in which nobody holds otherwise, or 12 rounds.");
        rested(Due.with(TWO), 1, 5, 5, 5, 5);
        rested(Due.with(TWO + "pull arm+thumb;"), 2, 20, 20, 20, 20);
        // by round k from the second one on the first HAND is at 4 + k, the other one at 5 + k
        rested(roundAndRound(1, 9, 9, 2), 13, 16 % 10, 5, 5, 17 % 10);
        // from 0 on the HAND of arm 2 is one lower each round, up to 9, the other one behind it: the tenth alters that one alone
        String match = "min(9,other+1)";
        CrackerRing x = Due.with(Due.people(1, 9, 9, 2) + "holds b left seam 0;"
            + "pull (1-min(1,arm/2))*(1+99*" + AS_LOW + "+49*(low/9)*(1-other/9))"
            + "+(min(1,arm/2)-min(1,arm/3))*(10+390*(1-min(1,max(low-" + match + "," + match + "-low))));");
        rested(x, 11, 9, 5, 5, 9);
    }

    private static void roundByRound() {
        EDGE.sentence(16, "AT REST: round by round PEOPLE, by numbers, first the right HAND, then the left one, each hold as is best for it, the others as they are then");
        // the first one's right HAND is ahead of the second one's left one, the first one's left HAND of the second one's right one
        rested(roundAndRound(1, 9, 9, 2), 13, 6, 5, 5, 7);
        rested(roundAndRound(2, 9, 9, 1), 13, 7, 5, 5, 7);
        rested(roundAndRound(9, 1, 2, 9), 13, 5, 6, 7, 5);
        rested(roundAndRound(9, 2, 1, 9), 13, 5, 7, 7, 5);
        CrackerRing x = roundAndRound(1, 9, 9, 2);
        x.change(0, 1);
        rested(x, 13, 5, 7, 7, 5);
        // all eight, each HAND of them
        x = Due.with(alike(8, 9, 9) + "pull arm+low*thumb;");
        EDGE.is("rests(NONE, 0) of eight", x.rests(-1, 0), 2);
        for (int seat = 0; seat < 8; seat++) {
            EDGE.is("rests(" + seat + ", 0) of eight", x.rests(seat, 0), 29);
            EDGE.is("rests(" + seat + ", 1) of eight", x.rests(seat, 1), 29);
        }
    }

    private static void asItHolds() {
        EDGE.sentence(16, "(as it holds, if that is among the best);");
        rested(Due.with(TWO + "holds a right thumb 9;holds b left paper 3;"), 1, 29, 5, 5, 13);
        rested(Due.with(TWO + "holds a right thumb 8;pull arm+low/5;"), 1, 28, 5, 5, 5);
        rested(Due.with(TWO + "holds a right thumb 8;holds a left thumb 4;pull arm*(1+low/5);"), 2, 28, 5, 5, 5);
    }

    private static void thumbed() {
        EDGE.sentence(17, "THUMBED: of n CRACKERS (3 at most) a HAND had w:");
        CrackerRing x = Due.with(TWO);
        EDGE.is("of 3", x.thumb(0, 0, 3, 3), 500);
        EDGE.is("of 4", x.thumb(0, 0, 4, 3), -1);
        EDGE.is("of 1", x.thumb(0, 0, 1, 1), 500);
        EDGE.is("of 0", x.thumb(0, 0, 0, 0), -1);
        EDGE.is("-1 of 3", x.thumb(0, 0, 3, -1), -1);
        EDGE.is("0 of 3", x.thumb(0, 0, 3, 0), 500);
        EDGE.is("4 of 3", x.thumb(0, 0, 3, 4), -1);
        EDGE.is("2 of 1", x.thumb(0, 0, 1, 2), -1);
        EDGE.sentence(17, "(as low as it is, the other one as it is): in thousandths (floor, as all thousandths here), the thumb's odds of w in a row, then the others not, to both odds together;");
        x = Due.with(TWO + "pull arm+2*thumb;");
        // the thumb 8000, the seam 7500 of 10000
        EDGE.is("1 of 1", x.thumb(0, 0, 1, 1), 8000 * 1000 / 15500);
        EDGE.is("0 of 1", x.thumb(0, 0, 1, 0), 2000 * 1000 / 4500);
        EDGE.is("2 of 3", x.thumb(0, 0, 3, 2), 128000 * 1000L / (128000 + 140625));
        EDGE.is("0 of 3", x.thumb(0, 0, 3, 0), 8000 * 1000L / (8000 + 15625));
        x = Due.with(TWO + "pull arm+thumb*low;holds a right paper 2;holds b left paper 0;");
        EDGE.is("as low as it is", x.thumb(0, 0, 1, 1), 8000 * 1000 / 15500);
        x = Due.with(TWO + "pull arm+thumb*other*2/5+paper*2;holds b left paper 5;");
        // the left one 4: the thumb 8 of 12, the seam 6 of 10
        EDGE.is("the other one as it is", x.thumb(0, 0, 1, 1), 6600 * 1000 / (6600 + 6000));
    }

    private static void neitherByThumbNorSeam() {
        EDGE.sentence(17, "500 if both are 0.");
        CrackerRing x = Due.with(Due.people(0, 0, 5, 5));
        EDGE.is("0 to 0", x.thumb(0, 0, 1, 1), 500);
        EDGE.is("0 to 0", x.thumb(0, 0, 3, 2), 500);
        EDGE.is("1 to 1", x.thumb(0, 0, 3, 0), 500);
        EDGE.is("0 to 0, who always has it", x.thumb(1, 1, 2, 1), 500);
        x = Due.with(Due.people(1, 1, 0, 0) + "pull arm*thumb;slip 100*seam;");
        EDGE.is("all to 0", x.thumb(0, 0, 1, 1), 1000);
        EDGE.is("0 to all", x.thumb(0, 0, 1, 0), 0);
        // the thumb by 1 of 10000, the seam never
        x = Due.with(Due.people(1, 99, 99, 99) + "slip (99*thumb+100*seam)*(2-min(2,arm));");
        EDGE.is("1 to 0", x.thumb(0, 0, 1, 1), 1000);
        x.hold(0, 0, 2, 5);
        EDGE.tells(x, 0, 1, 99, 99, 0, 1, 9999, 0);
    }

    private static void duds() {
        EDGE.sentence(18, "DUDS: of m CRACKERS d did not bang: the BOX by which that is likeliest (of like ones the first), its share of all BOXES' odds, in thousandths (0 if all are 0).");
        CrackerRing x = Due.with("box a duds 30;box b duds 70;box c duds 70;box d duds 30;");
        EDGE.is("the first of like ones", x.duds(1, 1, 0), 1);
        EDGE.is("the first of like ones", x.duds(1, 0, 0), 0);
        EDGE.is("share", x.duds(1, 1, 1), 350);
        EDGE.is("all alike", x.duds(2, 1, 0), 0);
        EDGE.is("share", x.duds(2, 1, 1), 250);
        x = Due.with("box a duds 0;box b duds 100;box c duds 0;");
        EDGE.is("all are 0", x.duds(2, 1, 0), 0);
        EDGE.is("all are 0", x.duds(2, 1, 1), 0);
        EDGE.is("one alone", x.duds(6, 6, 0), 1);
        EDGE.is("one alone", x.duds(6, 6, 1), 1000);
        EDGE.is("two alike", x.duds(6, 0, 0), 0);
        EDGE.is("two alike", x.duds(6, 0, 1), 500);
        EDGE.is("floor", Due.with("box a duds 1;box b duds 2;").duds(1, 1, 1), 666);
        EDGE.is("1 to 0", Due.with("box a duds 0;box b duds 1;").duds(1, 1, 1), 1000);
    }

    private static void gifts() {
        EDGE.sentence(20, "GIFTS: the fewest HATS handed, each from one to one beside him, till all have one.");
        EDGE.is("none, all have one", hats(1, 1).gifts(), 0);
        EDGE.is("none, all have one", hats(1, 99, 1, 1).gifts(), 0);
        EDGE.is("behind him", hats(2, 0).gifts(), 1);
        EDGE.is("ahead of him", hats(1, 0, 2).gifts(), 1);
        EDGE.is("over the end", hats(0, 1, 1, 2).gifts(), 1);
        EDGE.is("over the end", hats(2, 1, 1, 0).gifts(), 1);
        EDGE.is("from one to all", hats(8, 0, 0, 0, 0, 0, 0, 0).gifts(), 16);
        EDGE.is("from one to all", hats(0, 0, 0, 0, 0, 0, 0, 99).gifts(), 16);
        EDGE.is("as far as can be", hats(2, 1, 1, 1, 0, 1, 1, 1).gifts(), 4);
        EDGE.is("two to two", hats(3, 0, 0, 2, 0).gifts(), 3);
        EDGE.is("through others", hats(1, 0, 1, 2, 1).gifts(), 2);
        EDGE.is("not all from the nearest one", hats(0, 2, 0, 1, 2).gifts(), 2);
        EDGE.is("all from both sides", hats(0, 0, 0, 0, 4, 4, 0, 0).gifts(), 12);
    }

    private static void toTheLeft() {
        EDGE.sentence(21, "TO THE LEFT: in a round each who has two HATS or more gives one to the next one behind him in the row (all at once); till all have one, or 60 rounds.");
        EDGE.is("at once", hats(1, 1).left(0), 0);
        EDGE.is("at once", hats(1, 99).left(1), 0);
        EDGE.is("who has two gives", hats(2, 0).left(0), 1);
        EDGE.is("who has one does not", hats(1, 0).left(0), -1);
        EDGE.is("the last one to the first one", hats(0, 1, 2).left(0), 1);
        EDGE.is("all the way round", hats(1, 1, 1, 0, 2, 1, 1, 1).left(0), 7);
        EDGE.is("all the way round", hats(1, 1, 1, 0, 2, 1, 1, 1).left(1), 7);
        EDGE.is("all at once", hats(2, 2, 0).left(0), 1);
        EDGE.is("all at once", hats(2, 2, 0).left(1), 2);
        EDGE.is("from one to all", hats(8, 0, 0, 0, 0, 0, 0, 0).left(0), 13);
        EDGE.is("from one to all", hats(8, 0, 0, 0, 0, 0, 0, 0).left(1), 28);
        EDGE.is("never", hats(7, 0, 0, 0, 0, 0, 0, 0).left(0), -1);
        EDGE.is("never", hats(7, 0, 0, 0, 0, 0, 0, 0).left(1), -1);
    }

    private static void pairs() {
        EDGE.sentence(19, "PAIRS: the 1st and the 2nd pull one CRACKER (right HAND and left HAND), the 3rd and the 4th, and so on: how many have none ON THE MEAN (an odd one out has none).");
        EDGE.is("two", Due.with(alike(2, 1, 1)).pairs(), 1000);
        EDGE.is("three", Due.with(alike(3, 1, 1)).pairs(), 2000);
        EDGE.is("seven", Due.with(alike(7, 1, 1)).pairs(), 4000);
        EDGE.is("eight", Due.with(alike(8, 1, 1)).pairs(), 4000);
        EDGE.is("all slip", Due.with(alike(7, 1, 1) + "slip 100;").pairs(), 7000);
        // the right HANDS alone, of the 1st and the 3rd, and the left ones of the 2nd and the 4th
        String nine = "slip max(0,arm-8)*10;";
        EDGE.is("both", Due.with(Due.people(9, 1, 1, 9, 1, 1, 1, 1) + nine).pairs(), 2010);
        EDGE.is("not the others", Due.with(Due.people(1, 9, 9, 1, 1, 1, 1, 1) + nine).pairs(), 2000);
        EDGE.is("of the 3rd and the 4th", Due.with(Due.people(1, 1, 1, 1, 9, 1, 1, 9) + nine).pairs(), 2010);
        EDGE.is("not of an odd one out", Due.with(Due.people(1, 9, 1, 1, 9, 1) + nine).pairs(), 2000);
        EDGE.is("floor", Due.with(TWO + "slip 5;").pairs(), 1002);
    }

    public static void main(String[] args) {
        behindTheLast();
        fewerThanTwo();
        mights();
        slips();
        shareOfMights();
        ofTenThousand();
        whoHasIt();
        whatBangs();
        moreHats();
        twentyActs();
        allActs();
        draws();
        noneOneTwo();
        atMost();
        likeRows();
        likeHolds();
        otherHandAsItIs();
        twelveRounds();
        roundByRound();
        asItHolds();
        thumbed();
        neitherByThumbNorSeam();
        duds();
        gifts();
        toTheLeft();
        pairs();
        EDGE.end();
    }
}
