import java.util.Arrays;

/** The edges that the promises themselves name, call by call: each sentence a test of its own. */
public final class EdgeCallTest {
    private static final Edge EDGE = new Edge("EdgeCallTest");
    private static final int[] WILD = {Integer.MIN_VALUE, -1000000, -2, 99, 1000000, Integer.MAX_VALUE};
    private static final String TWO = Due.people(6, 4, 3, 2);
    private static final String THREE = "person ann right 6 left 4;person bob right 3 left 2;person abcdef right 9 left 8;";
    private static final String ONE = Due.people(6, 4);
    private static final String EIGHT = Due.people(1, 1, 1, 1, 1, 1, 1, 1, 1, 1, 1, 1, 1, 1, 1, 1);

    private static CrackerRing hats(int first, int second, int third) {
        CrackerRing x = Due.with(THREE);
        Due.restore(x, Due.image(0, 0, 0, 0, 0, 0, 0, first, 0, 5, 0, 5, 1, second, 0, 5, 0, 5, 2, third, 0, 5, 0, 5));
        return x;
    }

    /** A call that is refused: counted once, of its kind, and nothing else is altered. */
    private static void refused(CrackerRing x, int kind, Runnable call) {
        int[] before = statuses(x);
        String seen = Edge.seen(x);
        call.run();
        before[kind]++;
        EDGE.is("status() behind a refusal is " + Arrays.toString(before), Arrays.equals(before, statuses(x)), true);
        EDGE.is("all else stays", seen.equals(Edge.seen(x)), true);
    }

    /** A call that is not refused: nothing is counted. */
    private static void taken(CrackerRing x, Runnable call) {
        int[] before = statuses(x);
        call.run();
        EDGE.is("status() stays " + Arrays.toString(before), Arrays.equals(before, statuses(x)), true);
    }

    private static int[] statuses(CrackerRing x) {
        int[] all = new int[6];
        for (int kind = 0; kind < 6; kind++) {
            all[kind] = x.status(kind);
        }
        return all;
    }

    private static void newObject() {
        EDGE.sentence(1, "Nobody sits.");
        CrackerRing x = new CrackerRing();
        int[] has = {0, 0, 0, 100, 0, 0, 0, 0, 0, 0};
        for (int what = 0; what < has.length; what++) {
            EDGE.is("has(" + what + ")", x.has(what), has[what]);
        }
        for (int kind = 0; kind < 6; kind++) {
            EDGE.is("status(" + kind + ")", x.status(kind), 0);
        }
        EDGE.is("fault(0)", x.fault(0), 0);
        EDGE.is("fault(1)", x.fault(1), -1);
        EDGE.is("seat(0, 0)", x.seat(0, 0), -1);
        EDGE.is("letter(0, 0, 0)", x.letter(0, 0, 0), -1);
        EDGE.is("box(0)", x.box(0), -1);
        EDGE.is("octet(0)", x.octet(0), -1);
        EDGE.is("the tape is empty", x.end(1), false);
        EDGE.is("hold(0, 0, 0, 0)", x.hold(0, 0, 0, 0), false);
        EDGE.is("change(0, 1)", x.change(0, 1), false);
        EDGE.is("two objects are two", new CrackerRing().has(0) + Due.with(TWO).has(0), 2);
    }

    private static void feed() {
        EDGE.sentence(2, "Twenty bytes come behind those on the tape, of each number the highest first: how many there are;");
        CrackerRing x = new CrackerRing();
        EDGE.is("feed", x.feed(0x62616e67, 0x20373bff, -1, Integer.MIN_VALUE, 0x000000ff), 20);
        EDGE.is("end(7)", x.end(7), true);
        EDGE.is("feed behind 7", x.feed(0x62616e67, 0x20383bff, 0, 0, 0), 27);
        EDGE.is("end(14)", x.end(14), true);
        EDGE.is("table() of 'bang 7;bang 8;'", x.table(), 2);
        EDGE.is("bang", x.has(3), 8);
        // an image's bytes above 127: DINNERS 39 15, last 255 would be none
        x = new CrackerRing();
        int[] image = Due.image(39, 15, 0, 255, 0, 128);
        x.feed(0x270f00ff, 0x00800000 | image[6] << 8, 0, 0, 0);
        EDGE.is("end(7)", x.end(7), true);
        EDGE.is("restore()", x.restore(), true);
        EDGE.is("BANGS of 255", x.has(5), 255);
        EDGE.is("under the table 128", x.has(6), 128);
        for (int place = 0; place < 20; place++) {
            x.end(0);
            int[] five = new int[5];
            five[place / 4] = 32 << 24 - 8 * (place % 4);
            for (int i = 0; i < place; i++) {
                five[i / 4] |= 32 << 24 - 8 * (i % 4);
            }
            EDGE.is("feed", x.feed(five[0], five[1], five[2], five[3], five[4]), 20);
            EDGE.is("table()", x.table(), place == 19 ? 0 : -1);
            EDGE.is("the first byte that is no blank", x.fault(1), place == 19 ? -1 : place + 1);
        }
    }

    private static void feedTooMuch() {
        EDGE.sentence(2, "NONE, refused (0), if there would be more than 1600.");
        CrackerRing x = new CrackerRing();
        for (int n = 20; n <= 1600; n += 20) {
            EDGE.is("feed", x.feed(0x20202020, 0x20202020, 0x20202020, 0x20202020, 0x20202020), n);
        }
        refused(x, 0, () -> EDGE.is("feed to 1620", x.feed(-1, -1, -1, -1, -1), -1));
        EDGE.is("end(1581)", x.end(1581), true);
        refused(x, 0, () -> EDGE.is("feed to 1601", x.feed(-1, -1, -1, -1, -1), -1));
        EDGE.is("the tape stays", x.end(1582), false);
        EDGE.is("end(1580)", x.end(1580), true);
        taken(x, () -> EDGE.is("feed to 1600", x.feed(0x20202020, 0x20202020, 0x20202020, 0x20202020, 0x62616e67), 1600));
        EDGE.is("table()", x.table(), -1);
        EDGE.is("at the text's length", x.fault(1), 1600);
        EDGE.is("the tape is empty again", x.feed(0, 0, 0, 0, 0), 20);
    }

    private static void end() {
        EDGE.sentence(3, "The tape has its first n bytes alone: true; false, refused (0), if it has not so many, or n is below 0.");
        CrackerRing x = new CrackerRing();
        taken(x, () -> EDGE.is("end(0) of none", x.end(0), true));
        refused(x, 0, () -> EDGE.is("end(1) of none", x.end(1), false));
        refused(x, 0, () -> EDGE.is("end(-1) of none", x.end(-1), false));
        x.feed(0x62616e67, 0x20373b20, 0x20202020, 0x20202020, 0x20202020);
        refused(x, 0, () -> EDGE.is("end(21) of 20", x.end(21), false));
        refused(x, 0, () -> EDGE.is("end(-1) of 20", x.end(-1), false));
        for (int n : WILD) {
            refused(x, 0, () -> EDGE.is("end(" + n + ") of 20", x.end(n), false));
        }
        taken(x, () -> EDGE.is("end(20) of 20", x.end(20), true));
        taken(x, () -> EDGE.is("end(19) of 20", x.end(19), true));
        refused(x, 0, () -> EDGE.is("end(20) of 19", x.end(20), false));
        taken(x, () -> EDGE.is("end(7) of 19", x.end(7), true));
        EDGE.is("table() of 'bang 7;'", x.table(), 1);
        x.feed(0x62616e67, 0x20373b20, 0, 0, 0);
        EDGE.is("end(0) of 20", x.end(0), true);
        EDGE.is("table() of nothing", x.table(), 0);
    }

    private static void table() {
        EDGE.sentence(4, "The tape (it goes, refused or not) is THE TABLE: how many STATEMENTS; NONE, refused (1), with a FAULT (all else stays).");
        CrackerRing x = Due.with(TWO + "hats a 3;box z duds 7;bang 40;pull arm+low;slip 9;holds a right thumb 3;");
        x.dine(3);
        x.hold(1, 1, 2, 8);
        x.give(0, 1);
        x.change(0, 1);
        for (String text : new String[] {"x", "person a right 1 left 1;person b right 1 left 1;person c right 1 left 1;pull 1;slip 1;bang 101;",
            "box y duds 1;box y duds 1;", TWO + "pull (((((((1", "pull 1;pull 1;", "bang 1", "bang 1;".repeat(60) + "x"}) {
            Due.tape(x, Due.bytes(text));
            refused(x, 1, () -> EDGE.is("table() of '" + text + "'", x.table(), -1));
            EDGE.is("the tape goes", x.end(1), false);
            EDGE.is("what can be undone stays", x.has(9), 4);
        }
        Due.tape(x, Due.bytes(TWO));
        taken(x, () -> EDGE.is("table() of two", x.table(), 2));
        EDGE.is("the tape goes", x.end(1), false);
        EDGE.tells(x, 0, 6, 2, 0, 0);
        EDGE.is("no BOXES then", x.has(2), 0);
        EDGE.is("table() of nothing", x.table(), 0);
        EDGE.is("nobody sits then", x.has(0), 0);
    }

    private static void tableAnew() {
        EDGE.sentence(4, "Without one nobody has dined, nothing can be undone; the seed stays.");
        CrackerRing x = Due.with(TWO + "slip 30;bang 50;");
        CrackerRing y = Due.with(TWO + "slip 30;bang 50;");
        x.dine(9);
        y.dine(9);
        x.hold(0, 0, 2, 2);
        x.change(0, 1);
        EDGE.is("table()", Due.table(x, TWO + "slip 30;bang 50;"), 4);
        for (int what = 4; what < 8; what++) {
            EDGE.is("has(" + what + ")", x.has(what), 0);
        }
        EDGE.is("has(9)", x.has(9), 0);
        EDGE.is("undo()", x.undo(), false);
        EDGE.is("as told", x.seat(0, 0), 0);
        EDGE.is("as told", x.seat(0, 4), 0);
        EDGE.is("the seed stays", x.dine(50), y.dine(50));
        EDGE.is("the seed stays", x.has(6), y.has(6) - under(9));
    }

    /** Of the first so many DINNERS by seed 1, how many CRACKERS are under the table by SLIPS of 30. */
    private static int under(int dinners) {
        CrackerRing x = Due.with(TWO + "slip 30;bang 50;");
        x.dine(dinners);
        return x.has(6);
    }

    private static void fault() {
        EDGE.sentence(5, "Of the latest table() or ask(): its FAULT (what 0; 0 without, and ahead of any), its place (1; NONE without). NONE for another what.");
        CrackerRing x = new CrackerRing();
        EDGE.is("fault(0) ahead of any", x.fault(0), 0);
        EDGE.is("fault(1) ahead of any", x.fault(1), -1);
        x.table();
        EDGE.is("fault(0) without", x.fault(0), 0);
        EDGE.is("fault(1) without", x.fault(1), -1);
        x.ask();
        EDGE.is("fault(0) of ask()", x.fault(0), 1);
        EDGE.is("fault(1) of ask()", x.fault(1), 0);
        Due.restore(x, 1, 2, 3);
        EDGE.is("restore() leaves it", x.fault(0), 1);
        Due.table(x, "bang 101;");
        EDGE.is("fault(0) of table()", x.fault(0), 2);
        EDGE.is("fault(1) of table()", x.fault(1), 5);
        Due.ask(x, "total 1");
        EDGE.is("fault(0) of ask() then", x.fault(0), 0);
        EDGE.is("fault(1) of ask() then", x.fault(1), -1);
        Due.ask(x, "total x");
        Due.table(x, "bang 1;");
        EDGE.is("fault(0) of table() then", x.fault(0), 0);
        EDGE.is("fault(1) of table() then", x.fault(1), -1);
        Due.table(x, "bang 1");
        for (int what : new int[] {-1, 2, 3, Integer.MIN_VALUE, Integer.MAX_VALUE}) {
            EDGE.is("fault(" + what + ")", x.fault(what), -1);
        }
        EDGE.is("fault(1)", x.fault(1), 6);
    }

    private static void has() {
        EDGE.sentence(6, "How many there are: 0 PEOPLE, 1 CRACKERS, 2 BOXES, 3 bang, 4 DINNERS, 5 BANGS, 6 those under the table, 7 HATS of all together, 8 PEOPLE without one, 9 ACTS that can be undone. NONE for others.");
        CrackerRing x = Due.with(THREE + "box x duds 1;box y duds 1;bang 30;");
        Due.restore(x, Due.image(0, 4, 0, 5, 0, 6, 0, 7, 0, 5, 0, 5, 1, 0, 0, 5, 0, 5, 2, 99, 0, 5, 0, 5));
        x.hold(0, 0, 0, 0);
        int[] due = {3, 3, 2, 30, 4, 5, 6, 106, 1, 1};
        for (int what = 0; what < due.length; what++) {
            EDGE.is("has(" + what + ")", x.has(what), due[what]);
        }
        EDGE.alone("has()", 0, 9, x::has);
        CrackerRing one = Due.with(ONE);
        EDGE.is("one alone: CRACKERS", one.has(1), 0);
        EDGE.is("one alone: PEOPLE", one.has(0), 1);
        EDGE.is("one alone without one", one.has(8), 1);
        x.undo();
        EDGE.is("ACTS then", x.has(9), 0);
    }

    private static void letter() {
        EDGE.sentence(7, "Letter k (0 .. 5) of the NAME of who sits there (kind 0), of a BOX (1): 1 .. 26; 0 behind it; NONE when there is none such.");
        CrackerRing x = Due.with(THREE + "box z duds 1;box uvwxyz duds 1;");
        int[][] due = {{1, 14, 14, 0, 0, 0}, {2, 15, 2, 0, 0, 0}, {1, 2, 3, 4, 5, 6}, {26, 0, 0, 0, 0, 0}, {21, 22, 23, 24, 25, 26}};
        for (int i = 0; i < due.length; i++) {
            int kind = i / 3;
            int which = i % 3;
            for (int k = 0; k < 6; k++) {
                EDGE.is("letter(" + kind + ", " + which + ", " + k + ")", x.letter(kind, which, k), due[i][k]);
            }
            EDGE.alone("letter(" + kind + ", " + which + ", k)", 0, 5, k -> x.letter(kind, which, k));
        }
        EDGE.alone("letter(kind, 0, 0)", 0, 1, kind -> x.letter(kind, 0, 0));
        EDGE.alone("letter(0, which, 0)", 0, 2, which -> x.letter(0, which, 0));
        EDGE.alone("letter(1, which, 0)", 0, 1, which -> x.letter(1, which, 0));
        x.change(0, 2);
        EDGE.is("who sits there then", x.letter(0, 0, 5), 6);
        EDGE.is("no BOX without", Due.with(TWO).letter(1, 0, 0), -1);
    }

    private static void seat() {
        EDGE.sentence(8, "Of who sits in a seat: 0 which one he is as told, 1 HATS, 2 how strong right, 3 left, 4 GRIP right, 5 left, 6 how low right, 7 left. NONE when there is none such, or for others.");
        CrackerRing x = Due.with(THREE + "hats abcdef 9;holds abcdef right thumb 0;holds abcdef left paper 9;");
        int[] due = {2, 9, 9, 8, 2, 1, 0, 9};
        for (int what = 0; what < due.length; what++) {
            EDGE.is("seat(2, " + what + ")", x.seat(2, what), due[what]);
        }
        x.change(2, 0);
        for (int what = 0; what < due.length; what++) {
            EDGE.is("seat(0, " + what + ") then", x.seat(0, what), due[what]);
        }
        EDGE.alone("seat(0, what)", 0, 7, what -> x.seat(0, what));
        EDGE.alone("seat(seat, 0)", 0, 2, seat -> x.seat(seat, 0));
        CrackerRing eight = Due.with(EIGHT);
        EDGE.alone("seat(seat, 7) of eight", 0, 7, seat -> eight.seat(seat, 7));
    }

    private static void box() {
        EDGE.sentence(9, "Duds of a BOX; NONE when there is none such.");
        CrackerRing x = Due.with("box a duds 0;box b duds 100;box c duds 5;box d duds 6;");
        EDGE.alone("box()", 0, 3, x::box);
        EDGE.is("box(0)", x.box(0), 0);
        EDGE.is("box(1)", x.box(1), 100);
        EDGE.is("box(3)", x.box(3), 6);
        CrackerRing one = Due.with("box a duds 3;");
        EDGE.alone("box() of one", 0, 0, one::box);
        EDGE.is("box(0) without", Due.with(TWO).box(0), -1);
    }

    private static void cracker() {
        EDGE.sentence(10, "Of a CRACKER: MIGHT of the right HAND (what 0), of the left one (1), SLIPS (2, 3), in how many of 10000 the right HAND has it (4), the left one (5), nobody (6). NONE when there is none such, or for others.");
        CrackerRing x = Due.with(TWO + "slip arm;");
        // 6 and 2: B = 94 * 98 = 9212, R = 75, F = 6909
        EDGE.tells(x, 0, 6, 2, 6, 2, 94 * 2 + 6909, 6 * 98 + 9212 - 6909, 12);
        EDGE.alone("cracker(0, what)", 0, 6, what -> x.cracker(0, what));
        EDGE.alone("cracker(cracker, 0)", 0, 1, cracker -> x.cracker(cracker, 0));
        CrackerRing eight = Due.with(EIGHT);
        EDGE.alone("cracker(cracker, 6) of eight", 0, 7, cracker -> eight.cracker(cracker, 6));
        EDGE.is("one alone", Due.with(ONE).cracker(0, 0), -1);
    }

    private static void odds() {
        EDGE.sentence(11, "NONE, ONE, TWO (0 .. 2 HATS) of who sits in a seat, in millionths (floor); NONE when there are none such.");
        CrackerRing x = Due.with(Due.people(1, 2, 1, 2) + "slip 1;");
        EDGE.is("odds(0, 0)", x.odds(0, 0), 222277);
        EDGE.is("odds(0, 1)", x.odds(0, 1), 555544);
        EDGE.is("odds(0, 2)", x.odds(0, 2), 222177);
        EDGE.alone("odds(0, hats)", 0, 2, hats -> x.odds(0, hats));
        EDGE.alone("odds(seat, 0)", 0, 1, seat -> x.odds(seat, 0));
        EDGE.is("without a CRACKER", Due.with(ONE).odds(0, 0), -1);
        CrackerRing y = Due.with(Due.people(1, 0, 9, 2, 4, 4));
        int first = y.odds(0, 1);
        y.change(0, 1);
        EDGE.is("of who sits there then", y.odds(0, 1) == first, false);
    }

    /** Two who have none by 2774 * 7217 and by 3917 * 7373, together 48899999 of 10000 * 10000. */
    private static CrackerRing nearlyWhole() {
        CrackerRing x = Due.with(Due.people(3, 54, 21, 49) + "pull 1;slip arm;");
        EDGE.tells(x, 0, 1, 1, 3, 49, 7226, 2627, 147);
        EDGE.tells(x, 1, 1, 1, 21, 54, 6083, 2783, 1134);
        return x;
    }

    private static void mean() {
        EDGE.sentence(12, "ON THE MEAN so many PEOPLE have so many HATS (0 .. 2) by a DINNER, in thousandths (floor); NONE when that can't be, or without a CRACKER.");
        CrackerRing x = Due.with(Due.people(1, 2, 1, 2) + "slip 1;");
        EDGE.is("mean(0)", x.mean(0), 444);
        EDGE.is("mean(1)", x.mean(1), 1111);
        EDGE.is("mean(2)", x.mean(2), 444);
        EDGE.alone("mean()", 0, 2, x::mean);
        EDGE.is("just below 489", nearlyWhole().mean(0), 488);
        for (int hats = 0; hats < 3; hats++) {
            EDGE.is("one alone", Due.with(ONE).mean(hats), -1);
            EDGE.is("nobody", new CrackerRing().mean(hats), -1);
        }
    }

    private static void most() {
        EDGE.sentence(13, "AT MOST so many have none; NONE without a CRACKER.");
        EDGE.is("two", Due.with(TWO).most(), 1);
        EDGE.is("none", Due.with(Due.people(1, 0, 1, 0)).most(), 0);
        EDGE.is("one alone", Due.with(ONE).most(), -1);
        EDGE.is("nobody", new CrackerRing().most(), -1);
    }

    private static void seats() {
        EDGE.sentence(14, "SEATS: who sits k-th then (by his seat now); ON THE MEAN without, in thousandths (k NONE). NONE when there is none such, or without a CRACKER.");
        CrackerRing x = Due.with(Due.people(9, 9, 1, 0, 0, 99));
        EDGE.is("seats(NONE)", x.seats(CrackerRing.NONE), 582);
        EDGE.is("seats(1)", x.seats(1), 2);
        EDGE.alone("seats()", -1, 2, x::seats);
        EDGE.is("just below 489", nearlyWhole().seats(-1), 488);
        x.change(1, 2);
        EDGE.is("by his seat now", x.seats(1), 1);
        EDGE.is("the same", x.seats(-1), 582);
        // another one is the first one then: 0, 1, 2 is the row as good as it was
        x.change(0, 1);
        EDGE.is("by his seat now", x.seats(0), 0);
        EDGE.is("by his seat now", x.seats(1), 2);
        EDGE.is("by his seat now", x.seats(2), 1);
        CrackerRing eight = Due.with(EIGHT);
        EDGE.alone("seats() of eight", -1, 7, eight::seats);
        CrackerRing one = Due.with(ONE);
        for (int k : new int[] {-2, -1, 0, 1}) {
            EDGE.is("one alone, seats(" + k + ")", one.seats(k), -1);
            EDGE.is("nobody, seats(" + k + ")", new CrackerRing().seats(k), -1);
        }
    }

    private static void best() {
        EDGE.sentence(15, "HOW TO HOLD of who sits in a seat, for a HAND (0 right, 1 left): 10 times the GRIP and how low (what 0), in how many of 10000 he has it then (1). NONE when there are none such, or for others.");
        CrackerRing x = Due.with(TWO + "pull 100+thumb*low*20;");
        EDGE.is("right", x.best(0, 0, 0), 29);
        EDGE.is("280 of 380", x.best(0, 0, 1), 7300);
        EDGE.is("left", x.best(0, 1, 0), 29);
        EDGE.is("all but 100 of 380", x.best(0, 1, 1), 7400);
        EDGE.alone("best(seat, 0, 0)", 0, 1, seat -> x.best(seat, 0, 0));
        EDGE.alone("best(0, hand, 0)", 0, 1, hand -> x.best(0, hand, 0));
        EDGE.alone("best(0, 0, what)", 0, 1, what -> x.best(0, 0, what));
        EDGE.is("without a CRACKER", Due.with(ONE).best(0, 0, 0), -1);
        EDGE.is("without a CRACKER", Due.with(ONE).best(0, 0, 1), -1);
    }

    private static void rests() {
        EDGE.sentence(16, "AT REST: in which round nobody held otherwise (seat NONE; 13 if 12 were not enough), how one in a seat holds then, right (hand 0), left (1): 10 times the GRIP and how low. NONE when there are none such, or without a CRACKER.");
        CrackerRing x = Due.with(TWO + "pull 100+thumb*low*20;");
        EDGE.is("rests(NONE, 0)", x.rests(CrackerRing.NONE, 0), 2);
        EDGE.is("rests(0, 0)", x.rests(0, 0), 29);
        EDGE.is("rests(1, 1)", x.rests(1, 1), 29);
        EDGE.is("at once", Due.with(TWO).rests(-1, 0), 1);
        EDGE.alone("rests(seat, 0)", -1, 1, seat -> x.rests(seat, 0));
        EDGE.alone("rests(0, hand)", 0, 1, hand -> x.rests(0, hand));
        CrackerRing pennies = Due.with(TWO + "pull (arm/6)*(10-(low-other)*(low-other))+(1-min(1,max(arm-2,2-arm)))*(low-other)*(low-other);");
        EDGE.is("12 were not enough", pennies.rests(-1, 0), 13);
        CrackerRing one = Due.with(ONE);
        for (int seat : new int[] {-2, -1, 0, 1}) {
            EDGE.is("one alone, rests(" + seat + ", 0)", one.rests(seat, 0), -1);
            EDGE.is("nobody, rests(" + seat + ", 0)", new CrackerRing().rests(seat, 0), -1);
        }
        EDGE.is("all stays", x.seat(0, 4), 0);
        restsAnew();
    }

    /** Behind each ACT that can alter it, behind undo() and restore() and table(), it is found anew. */
    private static void restsAnew() {
        CrackerRing x = Due.with(Due.people(9, 9, 0, 0, 9, 9, 0, 0));
        EDGE.is("rests(0, 0)", x.rests(0, 0), 5);
        EDGE.is("seats(2)", x.seats(2), 3);
        x.hold(0, 0, 2, 7);
        EDGE.is("rests(0, 0) behind hold()", x.rests(0, 0), 27);
        x.change(0, 1);
        EDGE.is("rests(1, 0) behind change()", x.rests(1, 0), 27);
        EDGE.is("seats(2) behind change()", x.seats(2), 2);
        x.undo();
        EDGE.is("rests(0, 0) behind undo()", x.rests(0, 0), 27);
        EDGE.is("seats(2) behind undo()", x.seats(2), 3);
        Due.restore(x, Due.image(0, 0, 0, 0, 0, 0, 1, 0, 0, 5, 0, 5, 0, 0, 1, 8, 0, 5, 2, 0, 0, 5, 0, 5, 3, 0, 0, 5, 0, 5));
        EDGE.is("rests(1, 0) behind restore()", x.rests(1, 0), 18);
        EDGE.is("seats(2) behind restore()", x.seats(2), 2);
        Due.table(x, Due.people(9, 9, 9, 9, 0, 0, 0, 0) + "holds b right thumb 1;");
        EDGE.is("rests(1, 0) behind table()", x.rests(1, 0), 21);
        EDGE.is("seats(2) behind table()", x.seats(2), 2);
    }

    private static void thumb() {
        EDGE.sentence(17, "THUMBED, of n CRACKERS (1 .. 3) w had, by who sits in a seat, a HAND; NONE when there are none such, or that can't be.");
        CrackerRing x = Due.with(TWO + "pull arm+2*thumb;");
        EDGE.is("thumb(0, 0, 1, 1)", x.thumb(0, 0, 1, 1), 8000 * 1000 / 15500);
        EDGE.alone("thumb(0, 0, n, 0)", 1, 3, n -> x.thumb(0, 0, n, 0));
        EDGE.alone("thumb(0, 0, 1, w)", 0, 1, w -> x.thumb(0, 0, 1, w));
        EDGE.alone("thumb(0, 0, 2, w)", 0, 2, w -> x.thumb(0, 0, 2, w));
        EDGE.alone("thumb(0, 0, 3, w)", 0, 3, w -> x.thumb(0, 0, 3, w));
        EDGE.alone("thumb(seat, 0, 1, 1)", 0, 1, seat -> x.thumb(seat, 0, 1, 1));
        EDGE.alone("thumb(0, hand, 1, 1)", 0, 1, hand -> x.thumb(0, hand, 1, 1));
        EDGE.is("without a CRACKER", Due.with(ONE).thumb(0, 0, 1, 1), -1);
    }

    private static void duds() {
        EDGE.sentence(18, "DUDS: of m (1 .. 6) d: the BOX (what 0), its share (1). NONE without BOXES, when that can't be, or for others.");
        CrackerRing x = Due.with("box a duds 30;box b duds 70;");
        EDGE.is("duds(1, 1, 0)", x.duds(1, 1, 0), 1);
        EDGE.is("duds(1, 1, 1)", x.duds(1, 1, 1), 700);
        EDGE.is("duds(6, 0, 0)", x.duds(6, 0, 0), 0);
        EDGE.is("duds(6, 0, 1)", x.duds(6, 0, 1), 117649 * 1000 / (117649 + 729));
        EDGE.alone("duds(m, 0, 0)", 1, 6, m -> x.duds(m, 0, 0));
        for (int m = 1; m <= 6; m++) {
            int of = m;
            EDGE.alone("duds(" + m + ", d, 0)", 0, m, d -> x.duds(of, d, 0));
            EDGE.alone("duds(" + m + ", d, 1)", 0, m, d -> x.duds(of, d, 1));
        }
        EDGE.alone("duds(2, 1, what)", 0, 1, what -> x.duds(2, 1, what));
        EDGE.is("without BOXES", Due.with(TWO).duds(1, 1, 0), -1);
        EDGE.is("without BOXES", new CrackerRing().duds(1, 0, 1), -1);
        EDGE.is("without PEOPLE it can be", x.has(0), 0);
    }

    private static void pairs() {
        EDGE.sentence(19, "PAIRS: how many have none ON THE MEAN, in thousandths (floor); NONE without a CRACKER.");
        EDGE.is("two", Due.with(TWO).pairs(), 1000);
        EDGE.is("three", Due.with(THREE).pairs(), 2000);
        // nobody 1 of 10000
        EDGE.is("floor", Due.with(TWO + "slip 1;").pairs(), 1000);
        EDGE.is("nobody 9 of 10000", Due.with(TWO + "slip 3;").pairs(), 1000);
        EDGE.is("nobody 16 of 10000", Due.with(TWO + "slip 4;").pairs(), 1001);
        EDGE.is("one alone", Due.with(ONE).pairs(), -1);
        EDGE.is("nobody", new CrackerRing().pairs(), -1);
    }

    private static void gifts() {
        EDGE.sentence(20, "GIFTS: the fewest; NONE when there are fewer HATS than PEOPLE, or no CRACKER.");
        EDGE.is("as many as PEOPLE", hats(1, 1, 1).gifts(), 0);
        EDGE.is("as many as PEOPLE", hats(3, 0, 0).gifts(), 2);
        EDGE.is("one fewer", hats(1, 1, 0).gifts(), -1);
        EDGE.is("one fewer", hats(2, 0, 0).gifts(), -1);
        EDGE.is("none", hats(0, 0, 0).gifts(), -1);
        EDGE.is("many more", hats(99, 99, 0).gifts(), 1);
        EDGE.is("one alone", Due.with(ONE + "hats a 5;").gifts(), -1);
        EDGE.is("nobody", new CrackerRing().gifts(), -1);
    }

    private static void left() {
        EDGE.sentence(21, "TO THE LEFT: how many rounds (what 0), gifts (1) till all have one; NONE when 60 are not enough, without a CRACKER, or for others.");
        CrackerRing x = hats(3, 0, 0);
        EDGE.is("rounds", x.left(0), 3);
        EDGE.is("gifts", x.left(1), 3);
        EDGE.alone("left()", 0, 1, x::left);
        EDGE.is("all stays", x.seat(0, 1), 3);
        EDGE.is("nothing to undo", x.has(9), 0);
        EDGE.is("no round", hats(1, 1, 1).left(0), 0);
        EDGE.is("no gift", hats(9, 9, 9).left(1), 0);
        EDGE.is("60 are not enough", hats(2, 0, 0).left(0), -1);
        EDGE.is("60 are not enough", hats(1, 1, 0).left(1), -1);
        EDGE.is("one alone", Due.with(ONE + "hats a 1;").left(0), -1);
        EDGE.is("nobody", new CrackerRing().left(0), -1);
        EDGE.is("nobody", new CrackerRing().left(1), -1);
    }

    private static void dine() {
        EDGE.sentence(22, "n DINNERS (1 .. 50), one ACT: how many BANGS; NONE, refused (2), when it can't be, there is no CRACKER, or DINNERS would be above 9999.");
        CrackerRing x = Due.with(TWO + "slip 100;");
        refused(x, 2, () -> EDGE.is("dine(0)", x.dine(0), -1));
        refused(x, 2, () -> EDGE.is("dine(-1)", x.dine(-1), -1));
        refused(x, 2, () -> EDGE.is("dine(51)", x.dine(51), -1));
        for (int n : WILD) {
            refused(x, 2, () -> EDGE.is("dine(" + n + ")", x.dine(n), -1));
        }
        taken(x, () -> EDGE.is("dine(1)", x.dine(1), 2));
        EDGE.is("one ACT", x.has(9), 1);
        taken(x, () -> EDGE.is("dine(50)", x.dine(50), 100));
        EDGE.is("one ACT", x.has(9), 2);
        EDGE.is("DINNERS", x.has(4), 51);
        CrackerRing one = Due.with(ONE);
        refused(one, 2, () -> EDGE.is("dine(1) alone", one.dine(1), -1));
        CrackerRing nobody = new CrackerRing();
        refused(nobody, 2, () -> EDGE.is("dine(1) of nobody", nobody.dine(1), -1));
        manyDinners(x);
    }

    private static void manyDinners(CrackerRing x) {
        // 9949 = 38 * 256 + 221
        Due.restore(x, Due.image(38, 221, 0, 0, 0, 0, 0, 0, 0, 5, 0, 5, 1, 0, 0, 5, 0, 5));
        EDGE.is("DINNERS", x.has(4), 9949);
        taken(x, () -> EDGE.is("dine(50) to 9999", x.dine(50), 100));
        EDGE.is("DINNERS", x.has(4), 9999);
        refused(x, 2, () -> EDGE.is("dine(1) to 10000", x.dine(1), -1));
        x.undo();
        EDGE.is("dine(1) to 9950", x.dine(1), 2);
        refused(x, 2, () -> EDGE.is("dine(50) to 10000", x.dine(50), -1));
        EDGE.is("dine(49) to 9999", x.dine(49), 98);
    }

    private static void hold() {
        EDGE.sentence(23, "Who sits in a seat holds with a HAND by a GRIP, so low: true; false, refused (2), when that can't be.");
        CrackerRing x = Due.with(TWO);
        x.change(0, 1);
        taken(x, () -> EDGE.is("hold(0, 0, 2, 9)", x.hold(0, 0, 2, 9), true));
        EDGE.is("who sits there", x.seat(0, 4), 2);
        EDGE.is("so low", x.seat(0, 6), 9);
        EDGE.is("not the other HAND", x.seat(0, 5) + x.seat(0, 7), 5);
        EDGE.is("not the other one", x.seat(1, 4) + x.seat(1, 6), 5);
        taken(x, () -> EDGE.is("hold(1, 1, 0, 0)", x.hold(1, 1, 0, 0), true));
        EDGE.is("so low", x.seat(1, 7), 0);
        int[][] wrong = {{2, 0, 0, 0}, {-1, 0, 0, 0}, {0, 2, 0, 0}, {0, -1, 0, 0}, {0, 0, 3, 0}, {0, 0, -1, 0}, {0, 0, 0, 10}, {0, 0, 0, -1}};
        for (int[] w : wrong) {
            refused(x, 2, () -> EDGE.is("hold " + Arrays.toString(w), x.hold(w[0], w[1], w[2], w[3]), false));
        }
        for (int n : WILD) {
            for (int i = 0; i < 4; i++) {
                int[] w = {0, 0, 0, 0};
                w[i] = n;
                refused(x, 2, () -> EDGE.is("hold " + Arrays.toString(w), x.hold(w[0], w[1], w[2], w[3]), false));
            }
        }
        EDGE.is("ACTS", x.has(9), 3);
        EDGE.is("without a CRACKER", Due.with(ONE).hold(0, 0, 1, 1), true);
        EDGE.is("nobody", new CrackerRing().hold(0, 0, 0, 0), false);
        CrackerRing eight = Due.with(EIGHT);
        EDGE.is("the eighth", eight.hold(7, 1, 1, 1), true);
        EDGE.is("the ninth", eight.hold(8, 1, 1, 1), false);
    }

    private static void give() {
        EDGE.sentence(24, "A HAT is given from seat to seat: true; false, refused (3), when there are none such, they are one, he has none, or the other one has 99.");
        CrackerRing none = hats(0, 1, 98);
        refused(none, 3, () -> EDGE.is("he has none", none.give(0, 1), false));
        refused(none, 3, () -> EDGE.is("he has none", none.give(0, 2), false));
        taken(none, () -> EDGE.is("he has one", none.give(1, 0), true));
        CrackerRing x = hats(1, 98, 99);
        refused(x, 3, () -> EDGE.is("the other one has 99", x.give(1, 2), false));
        taken(x, () -> EDGE.is("the other one has 98", x.give(0, 1), true));
        refused(x, 3, () -> EDGE.is("he has none", x.give(0, 1), false));
        EDGE.is("he has none", x.seat(0, 1), 0);
        EDGE.is("the other one has 99", x.seat(1, 1), 99);
        taken(x, () -> EDGE.is("to one who has none", x.give(2, 0), true));
        refused(x, 3, () -> EDGE.is("they are one", x.give(0, 0), false));
        refused(x, 3, () -> EDGE.is("they are one", x.give(2, 2), false));
        refused(x, 3, () -> EDGE.is("no such seat", x.give(0, 3), false));
        refused(x, 3, () -> EDGE.is("no such seat", x.give(3, 0), false));
        refused(x, 3, () -> EDGE.is("no such seat", x.give(0, -1), false));
        refused(x, 3, () -> EDGE.is("no such seat", x.give(-1, 0), false));
        for (int n : WILD) {
            refused(x, 3, () -> EDGE.is("give(0, " + n + ")", x.give(0, n), false));
            refused(x, 3, () -> EDGE.is("give(" + n + ", 0)", x.give(n, 0), false));
            refused(x, 3, () -> EDGE.is("give(" + n + ", " + n + ")", x.give(n, n), false));
        }
        EDGE.is("ACTS", x.has(9), 2);
        x.change(0, 1);
        taken(x, () -> EDGE.is("who sits there then", x.give(0, 1), true));
        EDGE.is("who sits there then", x.seat(0, 1), 98);
    }

    private static void pass() {
        EDGE.sentence(25, "One round TO THE LEFT (who would have more than 99 has 99): how many gave; NONE, refused (3), without a CRACKER.");
        CrackerRing x = hats(99, 99, 99);
        taken(x, () -> EDGE.is("all give", x.pass(), 3));
        EDGE.is("99 stay", x.has(7), 297);
        CrackerRing y = hats(99, 1, 2);
        EDGE.is("two give", y.pass(), 2);
        EDGE.is("the first one had one of the last one", y.seat(0, 1), 99);
        EDGE.is("who has one keeps it", y.seat(1, 1), 2);
        EDGE.is("who had two", y.seat(2, 1), 1);
        EDGE.is("one ACT", y.has(9), 1);
        CrackerRing z = hats(0, 1, 1);
        taken(z, () -> EDGE.is("none gives", z.pass(), 0));
        EDGE.is("one ACT too", z.has(9), 1);
        CrackerRing one = Due.with(ONE + "hats a 5;");
        refused(one, 3, () -> EDGE.is("one alone", one.pass(), -1));
        EDGE.is("no ACT", one.has(9), 0);
        CrackerRing nobody = new CrackerRing();
        refused(nobody, 3, () -> EDGE.is("nobody", nobody.pass(), -1));
    }

    private static void change() {
        EDGE.sentence(26, "Seats are taken anew: two change seats: true; false, refused (3), when there are none such, or they are one.");
        CrackerRing x = hats(1, 2, 3);
        taken(x, () -> EDGE.is("change(0, 2)", x.change(0, 2), true));
        EDGE.is("who sits in seat 0", x.seat(0, 0), 2);
        EDGE.is("who sits in seat 1", x.seat(1, 0), 1);
        EDGE.is("who sits in seat 2", x.seat(2, 0), 0);
        taken(x, () -> EDGE.is("change(2, 1)", x.change(2, 1), true));
        EDGE.is("who sits in seat 2", x.seat(2, 0), 1);
        for (int seat = 0; seat < 3; seat++) {
            int one = seat;
            refused(x, 3, () -> EDGE.is("they are one", x.change(one, one), false));
        }
        for (int n : new int[] {-1, 3}) {
            refused(x, 3, () -> EDGE.is("change(0, " + n + ")", x.change(0, n), false));
            refused(x, 3, () -> EDGE.is("change(" + n + ", 0)", x.change(n, 0), false));
        }
        for (int n : WILD) {
            refused(x, 3, () -> EDGE.is("change(0, " + n + ")", x.change(0, n), false));
            refused(x, 3, () -> EDGE.is("change(" + n + ", 0)", x.change(n, 0), false));
        }
        EDGE.is("ACTS", x.has(9), 2);
        CrackerRing one = Due.with(ONE);
        refused(one, 3, () -> EDGE.is("one alone", one.change(0, 1), false));
    }

    private static void undo() {
        EDGE.sentence(27, "The latest ACT is undone (the seed stays): true; false, refused (4), when none can be.");
        CrackerRing x = Due.with(THREE + "hats ann 5;slip 20;");
        refused(x, 4, () -> EDGE.is("none", x.undo(), false));
        Runnable[] acts = {() -> x.dine(3), () -> x.hold(1, 1, 2, 7), () -> x.give(0, 2), () -> x.pass(), () -> x.change(0, 2)};
        String[] before = new String[acts.length];
        for (int i = 0; i < acts.length; i++) {
            before[i] = Edge.seen(x);
            acts[i].run();
        }
        for (int i = acts.length - 1; i >= 0; i--) {
            taken(x, () -> EDGE.is("undo()", x.undo(), true));
            EDGE.is("all as before ACT " + i, before[i].equals(Edge.seen(x)), true);
        }
        refused(x, 4, () -> EDGE.is("none more", x.undo(), false));
        CrackerRing y = Due.with(TWO + "slip 30;bang 50;");
        CrackerRing z = Due.with(TWO + "slip 30;bang 50;");
        y.dine(7);
        y.undo();
        z.dine(7);
        EDGE.is("the seed stays", y.dine(40), z.dine(40));
        EDGE.is("the seed stays", y.has(6) + under(7), z.has(6));
        y.undo();
        EDGE.is("what is undone is no ACT", y.undo(), false);
    }

    private static void seed() {
        EDGE.sentence(28, "The seed: true; false, refused (5), when it is below 0. (It is 1 at first.)");
        CrackerRing x = Due.with(TWO + "slip 30;bang 50;");
        CrackerRing y = Due.with(TWO + "slip 30;bang 50;");
        refused(y, 5, () -> EDGE.is("seed(-1)", y.seed(-1), false));
        refused(y, 5, () -> EDGE.is("the lowest", y.seed(Integer.MIN_VALUE), false));
        int first = x.dine(50);
        EDGE.is("1 at first", y.dine(50), first);
        taken(y, () -> EDGE.is("seed(1)", y.seed(1), true));
        y.undo();
        EDGE.is("by 1 again", y.dine(50), first);
        EDGE.is("by 1 again", y.has(6), x.has(6));
        taken(y, () -> EDGE.is("seed(0)", y.seed(0), true));
        taken(y, () -> EDGE.is("the highest", y.seed(Integer.MAX_VALUE), true));
        EDGE.is("no ACT", y.has(9), 1);
    }

    private static void image() {
        EDGE.sentence(30, "AN IMAGE is written: how many bytes.");
        EDGE.is("nobody", new CrackerRing().image(), 7);
        EDGE.is("one alone", Due.with(ONE).image(), 13);
        EDGE.is("two", Due.with(TWO).image(), 19);
        EDGE.is("eight", Due.with(EIGHT).image(), 55);
        EDGE.is("eight, the last byte", last(Due.with(EIGHT)) >= 0, true);
        EDGE.sentence(31, "Byte k of the latest image(); NONE when there is none such.");
        CrackerRing x = new CrackerRing();
        EDGE.is("ahead of any", x.octet(0), -1);
        x.image();
        EDGE.alone("octet() of nobody", 0, 6, x::octet);
        Due.table(x, EIGHT);
        EDGE.alone("octet() of nobody still", 0, 6, x::octet);
        x.image();
        EDGE.alone("octet() of eight", 0, 54, x::octet);
        x.hold(0, 0, 2, 9);
        EDGE.is("of the latest image()", x.octet(9), 5);
        x.image();
        EDGE.is("of the latest image()", x.octet(9), 9);
        Due.table(x, ONE);
        x.image();
        EDGE.alone("octet() of one", 0, 12, x::octet);
    }

    private static int last(CrackerRing x) {
        return x.octet(x.image() - 1);
    }

    private static void restore() {
        EDGE.sentence(32, "The tape (it goes, refused or not) is AN IMAGE of this TABLE: true, all is as it tells, nothing can be undone; false, refused (5), when it is none (DINNERS, BANGS, those under the table 9999 at most; each of the PEOPLE in one seat; HATS 99, GRIPS 2, low 9 at most), all staying.");
        int[] most = {39, 15, 39, 15, 39, 15, 1, 99, 2, 9, 2, 9, 0, 99, 2, 9, 2, 9};
        CrackerRing x = Due.with(TWO + "hats a 2;");
        x.give(0, 1);
        int[][] wrong = {{0, 40}, {1, 16}, {2, 40}, {3, 16}, {4, 40}, {5, 16}, {6, 0}, {6, 2}, {6, 255}, {12, 1}, {12, 2}, {7, 100}, {8, 3},
            {9, 10}, {10, 3}, {11, 10}, {13, 100}, {14, 3}, {15, 10}, {16, 3}, {17, 10}, {17, 255}};
        for (int[] w : wrong) {
            int[] spoilt = most.clone();
            spoilt[w[0]] = w[1];
            wrongImage(x, "byte " + w[0] + " is " + w[1], Due.image(spoilt));
        }
        int[] other = Due.image(most);
        for (int b = 0; b < 256; b++) {
            if (b != Due.image(most)[18] && b % 50 < 6) {
                other[18] = b;
                wrongImage(x, "the last byte is " + b, other);
            }
        }
        CrackerRing three = Due.with(THREE);
        wrongImage(three, "the first one in two seats", Due.image(0, 0, 0, 0, 0, 0, 0, 0, 0, 5, 0, 5, 1, 0, 0, 5, 0, 5, 0, 0, 0, 5, 0, 5));
        wrongImage(three, "the second one in two seats", Due.image(0, 0, 0, 0, 0, 0, 1, 0, 0, 5, 0, 5, 2, 0, 0, 5, 0, 5, 1, 0, 0, 5, 0, 5));
        wrongImage(x, "one byte less", Arrays.copyOf(Due.image(most), 18));
        wrongImage(x, "one byte more", Arrays.copyOf(Due.image(most), 20));
        wrongImage(x, "one byte more ahead of the last", Due.image(Arrays.copyOf(most, 19)));
        wrongImage(x, "one byte less ahead of the last", Due.image(Arrays.copyOf(most, 17)));
        wrongImage(x, "of one alone", Due.image(Arrays.copyOf(most, 12)));
        wrongImage(x, "of nobody", Due.image(Arrays.copyOf(most, 6)));
        wrongImage(x, "nothing");
        wrongImage(x, "one byte", 227);
        restored(x, most);
    }

    private static void wrongImage(CrackerRing x, String which, int... bytes) {
        Due.tape(x, bytes);
        refused(x, 5, () -> EDGE.is("restore(), " + which, x.restore(), false));
        EDGE.is("the tape goes", x.end(1), false);
    }

    private static void restored(CrackerRing x, int[] most) {
        EDGE.is("ACTS ahead of it", x.has(9), 1);
        Due.tape(x, Due.image(most));
        taken(x, () -> EDGE.is("restore() of the greatest", x.restore(), true));
        EDGE.is("the tape goes", x.end(1), false);
        int[] has = {2, 2, 0, 100, 9999, 9999, 9999, 198, 0, 0};
        for (int what = 0; what < has.length; what++) {
            EDGE.is("has(" + what + ") then", x.has(what), has[what]);
        }
        int[] seat = {1, 99, 3, 2, 2, 2, 9, 9};
        for (int what = 0; what < seat.length; what++) {
            EDGE.is("seat(0, " + what + ") then", x.seat(0, what), seat[what]);
        }
        EDGE.is("nothing can be undone", x.undo(), false);
        int[] least = new int[18];
        least[12] = 1;
        EDGE.is("restore() of the least", Due.restore(x, Due.image(least)), true);
        EDGE.is("HATS then", x.has(7), 0);
        EDGE.is("low then", x.seat(1, 7), 0);
        EDGE.is("DINNERS then", x.has(4), 0);
        CrackerRing nobody = new CrackerRing();
        EDGE.is("restore() of nobody", Due.restore(nobody, Due.image(0, 0, 0, 1, 0, 0)), true);
        EDGE.is("BANGS of nobody", nobody.has(5), 1);
        CrackerRing eight = Due.with(EIGHT);
        eight.change(0, 7);
        eight.image();
        int[] bytes = new int[55];
        for (int k = 0; k < 55; k++) {
            bytes[k] = eight.octet(k);
        }
        CrackerRing other = Due.with(EIGHT);
        EDGE.is("restore() of eight", Due.restore(other, bytes), true);
        EDGE.is("as it tells", other.seat(0, 0), 7);
    }

    private static void status() {
        EDGE.sentence(33, "How many were refused: 0 feed(), end(); 1 table(); 2 dine(), hold(); 3 give(), pass(), change(); 4 undo(); 5 seed(), restore(). NONE for others.");
        CrackerRing x = new CrackerRing();
        for (int n = 0; n < 80; n++) {
            x.feed(0, 0, 0, 0, 0);
        }
        Runnable[] calls = {() -> x.feed(0, 0, 0, 0, 0), () -> x.end(1601), () -> x.table(), () -> x.dine(1), () -> x.hold(0, 0, 0, 0),
            () -> x.give(0, 1), () -> x.pass(), () -> x.change(0, 1), () -> x.undo(), () -> x.seed(-1), () -> x.restore()};
        int[] kinds = {0, 0, 1, 2, 2, 3, 3, 3, 4, 5, 5};
        for (int i = 0; i < calls.length; i++) {
            refused(x, kinds[i], calls[i]);
        }
        Runnable[] others = {() -> x.ask(), () -> x.fault(9), () -> x.has(-1), () -> x.letter(9, 0, 0), () -> x.seat(9, 0), () -> x.box(9),
            () -> x.cracker(0, 0), () -> x.odds(0, 0), () -> x.mean(0), () -> x.most(), () -> x.seats(0), () -> x.best(0, 0, 0),
            () -> x.rests(0, 0), () -> x.thumb(0, 0, 0, 0), () -> x.duds(0, 0, 0), () -> x.pairs(), () -> x.gifts(), () -> x.left(0),
            () -> x.image(), () -> x.octet(99), () -> x.status(9)};
        for (Runnable other : others) {
            taken(x, other);
        }
        EDGE.alone("status()", 0, 5, x::status);
        int[] due = {2, 1, 2, 3, 1, 2};
        for (int kind = 0; kind < due.length; kind++) {
            EDGE.is("status(" + kind + ")", x.status(kind), due[kind]);
        }
    }

    private static void manyCalls() {
        EDGE.sentence(1, "An object is used for at most 512 calls after it has been made; what later calls answer is free.");
        CrackerRing x = new CrackerRing();
        // "person a right 1 left 1;"
        x.feed(0x70657273, 0x6f6e2061, 0x20726967, 0x68742031, 0x206c6566);
        x.feed(0x7420313b, 0, 0, 0, 0);
        x.end(24);
        EDGE.is("table() of one alone", x.table(), 1);
        int calls = 4;
        for (; calls < 490; calls++) {
            x.hold(0, calls % 2, calls % 3, calls % 10);
        }
        for (; calls < 508; calls++) {
            EDGE.is("undo()", x.undo(), true);
        }
        EDGE.is("the 509th call", x.has(9), 2);
        EDGE.is("the 510th call", x.seat(0, 7), 471 % 10);
        EDGE.is("the 511th call", x.seat(0, 6), 470 % 10);
        EDGE.is("the 512th call", x.status(2), 0);
    }

    private static void constants() {
        EDGE.sentence(29, "public static final long NOTHING = -1000000000000000L;");
        EDGE.is("NOTHING", CrackerRing.NOTHING, -1000000000000000L);
        EDGE.sentence(33, "public static final int NONE = -1;");
        EDGE.is("NONE", CrackerRing.NONE, -1);
    }

    public static void main(String[] args) {
        newObject();
        feed();
        feedTooMuch();
        end();
        table();
        tableAnew();
        fault();
        has();
        letter();
        seat();
        box();
        cracker();
        odds();
        mean();
        most();
        seats();
        best();
        rests();
        thumb();
        duds();
        pairs();
        gifts();
        left();
        dine();
        hold();
        give();
        pass();
        change();
        undo();
        seed();
        image();
        restore();
        status();
        manyCalls();
        constants();
        EDGE.allPromises();
        EDGE.end();
    }
}
