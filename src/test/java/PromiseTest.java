/** Each promise by hand: ordinary calls, the edges that the document names, and wrong calls. */
public final class PromiseTest {
    private static final Due DUE = new Due("PromiseTest");
    /** A seed by which the first DRAW of 10000 is 0. */
    private static final int FIRST_ZERO = 7755;
    private static final String TWO = Due.people(6, 4, 3, 2);
    private static final String THREE = "person ann right 6 left 4;person bob right 3 left 2;person cid right 9 left 9;";

    private static void newObject() {
        CrackerRing x = new CrackerRing();
        int[] due = {0, 0, 0, 100, 0, 0, 0, 0, 0, 0};
        for (int what = 0; what < due.length; what++) {
            DUE.is("1: has(" + what + ")", x.has(what), due[what]);
        }
        DUE.is("1: seat", x.seat(0, 0), -1);
        DUE.is("1: fault(0)", x.fault(0), 0);
        DUE.is("1: fault(1)", x.fault(1), -1);
        for (int what = 0; what < 6; what++) {
            DUE.is("1: status(" + what + ")", x.status(what), 0);
        }
    }

    private static void feedAndEnd() {
        CrackerRing x = new CrackerRing();
        DUE.is("3: end(0) of none", x.end(0), true);
        DUE.is("3: end(1) of none", x.end(1), false);
        for (int i = 1; i <= 80; i++) {
            DUE.is("2: feed", x.feed(-1, 0, 1, 2, 3), 20 * i);
        }
        DUE.is("2: feed above 1600", x.feed(0, 0, 0, 0, 0), -1);
        DUE.is("2: refused", x.status(0), 2);
        DUE.is("3: end(1601)", x.end(1601), false);
        DUE.is("3: end(-1)", x.end(-1), false);
        DUE.is("3: refused", x.status(0), 4);
        DUE.is("3: end(1600)", x.end(1600), true);
        DUE.is("3: end(1581)", x.end(1581), true);
        DUE.is("2: feed to 1601", x.feed(0, 0, 0, 0, 0), -1);
        DUE.is("3: end(1580)", x.end(1580), true);
        DUE.is("2: feed to 1600", x.feed(0, 0, 0, 0, 0), 1600);
        DUE.is("3: end(0)", x.end(0), true);
        // "bang 7;" and behind it bytes of which the highest is set
        DUE.is("2: feed", x.feed(0x62616e67, 0x20373b80, 0xff000000, -1, -1), 20);
        DUE.is("3: end(7)", x.end(7), true);
        DUE.is("3: end(8) then", x.end(8), false);
        DUE.is("2: the highest first", x.table(), 1);
        DUE.is("2: bang", x.has(3), 7);
        DUE.is("4: the tape goes", x.end(1), false);
        x.feed(0x62616e67, 0x20373bff, 0, 0, 0);
        x.end(8);
        DUE.is("2: a byte above 127", x.table(), -1);
        DUE.is("5: its place", x.fault(1), 7);
        DUE.is("4: the tape goes, refused too", x.end(1), false);
    }

    private static void tables() {
        CrackerRing x = Due.with(THREE + "hats bob 3;box red duds 20;bang 40;");
        x.seed(77);
        x.dine(2);
        x.give(1, 0);
        x.change(0, 1);
        DUE.is("4: a FAULT", Due.table(x, "person z right 1 left 1;pull"), -1);
        DUE.is("4: refused", x.status(1), 1);
        DUE.is("5: fault(0)", x.fault(0), 1);
        DUE.is("5: fault(1)", x.fault(1), 28);
        DUE.is("5: fault(2)", x.fault(2), -1);
        DUE.is("5: fault(-1)", x.fault(-1), -1);
        DUE.is("4: all else stays: PEOPLE", x.has(0), 3);
        DUE.is("4: all else stays: bang", x.has(3), 40);
        DUE.is("4: all else stays: DINNERS", x.has(4), 2);
        DUE.is("4: all else stays: ACTS", x.has(9), 3);
        DUE.is("4: all else stays: seats", x.seat(0, 0), 1);
        DUE.is("4: all else stays: BOXES", x.box(0), 20);
        DUE.is("4: the same TABLE", Due.table(x, THREE + "hats bob 3;hats bob 2;"), 5);
        DUE.is("5: without", x.fault(0), 0);
        DUE.is("5: without", x.fault(1), -1);
        DUE.is("4: nobody has dined", x.has(4), 0);
        DUE.is("4: no BANGS", x.has(5), 0);
        DUE.is("4: the last one counts", x.has(7), 2);
        DUE.is("4: nothing can be undone", x.has(9), 0);
        DUE.is("4: nothing can be undone", x.undo(), false);
        DUE.is("4: as told", x.seat(0, 0), 0);
        DUE.is("4: 100 without", x.has(3), 100);
        DUE.is("4: no BOX without", x.has(2), 0);
        DUE.is("5: of ask()", Due.ask(x, "total"), CrackerRing.NOTHING);
        DUE.is("5: of ask()", x.fault(1), 5);
        DUE.is("5: of the latest", Due.ask(x, "total 1"), 3);
        DUE.is("5: of the latest", x.fault(0), 0);
        seedStays();
    }

    private static void seedStays() {
        CrackerRing x = Due.with(TWO + "bang 50;");
        CrackerRing y = Due.with(TWO + "bang 50;");
        x.dine(7);
        y.dine(7);
        Due.table(y, TWO + "bang 50;");
        DUE.is("4: the seed stays", y.dine(50), x.dine(50));
        x.undo();
        x.undo();
        y.undo();
        DUE.is("27: the seed stays", y.dine(50), x.dine(50));
        DUE.is("27: and so on", y.has(6), x.has(6));
    }

    private static void whatThereIs() {
        CrackerRing x = Due.with(THREE + "hats ann 2;hats bob 7;box red duds 0;box abcxyz duds 100;");
        int[] due = {3, 3, 2, 100, 0, 0, 0, 9, 1, 0};
        for (int what = 0; what < due.length; what++) {
            DUE.is("6: has(" + what + ")", x.has(what), due[what]);
        }
        DUE.is("6: has(10)", x.has(10), -1);
        DUE.is("6: has(-1)", x.has(-1), -1);
        DUE.is("6: one CRACKER less than two", Due.with(Due.people(1, 1)).has(1), 0);
        DUE.is("6: two CRACKERS for two", Due.with(TWO).has(1), 2);
        int[] abcxyz = {1, 2, 3, 24, 25, 26};
        int[] bob = {2, 15, 2, 0, 0, 0};
        for (int k = 0; k < 6; k++) {
            DUE.is("7: a BOX", x.letter(1, 1, k), abcxyz[k]);
            DUE.is("7: who sits there", x.letter(0, 1, k), bob[k]);
        }
        DUE.is("7: letter 6", x.letter(1, 1, 6), -1);
        DUE.is("7: letter -1", x.letter(1, 1, -1), -1);
        DUE.is("7: no BOX", x.letter(1, 2, 0), -1);
        DUE.is("7: no seat", x.letter(0, 3, 0), -1);
        DUE.is("7: no seat", x.letter(0, -1, 0), -1);
        DUE.is("7: kind 2", x.letter(2, 0, 0), -1);
        DUE.is("7: kind -1", x.letter(-1, 0, 0), -1);
        x.change(1, 2);
        DUE.is("7: who sits there then", x.letter(0, 1, 0), 3);
        DUE.is("9: box(0)", x.box(0), 0);
        DUE.is("9: box(1)", x.box(1), 100);
        DUE.is("9: box(2)", x.box(2), -1);
        DUE.is("9: box(-1)", x.box(-1), -1);
    }

    private static void seat() {
        CrackerRing x = Due.with(THREE + "hats bob 9;holds bob left thumb 0;holds bob right paper 9;holds bob left paper 3;");
        int[] bob = {1, 9, 3, 2, 1, 1, 9, 3};
        int[] cid = {2, 0, 9, 9, 0, 0, 5, 5};
        for (int what = 0; what < 8; what++) {
            DUE.is("8: seat(1, " + what + ")", x.seat(1, what), bob[what]);
            DUE.is("8: seat(2, " + what + ")", x.seat(2, what), cid[what]);
        }
        DUE.is("8: seat(1, 8)", x.seat(1, 8), -1);
        DUE.is("8: seat(1, -1)", x.seat(1, -1), -1);
        DUE.is("8: seat(3, 0)", x.seat(3, 0), -1);
        DUE.is("8: seat(-1, 0)", x.seat(-1, 0), -1);
        x.change(1, 2);
        for (int what = 0; what < 8; what++) {
            DUE.is("26: seat(2, " + what + ")", x.seat(2, what), bob[what]);
            DUE.is("26: seat(1, " + what + ")", x.seat(1, what), cid[what]);
        }
    }

    private static void tells(CrackerRing x, int cracker, int... due) {
        for (int what = 0; what < 7; what++) {
            DUE.is("10: cracker(" + cracker + ", " + what + ")", x.cracker(cracker, what), due[what]);
        }
    }

    private static void crackers() {
        CrackerRing x = Due.with(TWO);
        tells(x, 0, 6, 2, 0, 0, 7500, 2500, 0);
        tells(x, 1, 3, 4, 0, 0, 4200, 5800, 0);
        DUE.is("10: what 7", x.cracker(0, 7), -1);
        DUE.is("10: what -1", x.cracker(0, -1), -1);
        DUE.is("10: cracker(2)", x.cracker(2, 0), -1);
        DUE.is("10: cracker(-1)", x.cracker(-1, 0), -1);
        DUE.is("10: none for one", Due.with(Due.people(5, 5)).cracker(0, 0), -1);
        tells(Due.with(Due.people(0, 0, 0, 0)), 0, 0, 0, 0, 0, 5000, 5000, 0);
        tells(Due.with(Due.people(0, 0, 0, 1)), 0, 0, 1, 0, 0, 0, 10000, 0);
        tells(Due.with(TWO + "pull arm*1000-3000;slip 200*(arm-5);"), 0, 999, 0, 100, 0, 0, 10000, 0);
        tells(Due.with(TWO + "slip 50;"), 0, 6, 2, 50, 50, 4375, 3125, 2500);
        tells(Due.with(TWO + "slip 100;"), 0, 6, 2, 100, 100, 0, 0, 10000);
        // B = 93 * 71 = 6603, R = 75, F = 4952
        tells(Due.with(TWO + "slip 29-(arm-2)/4*22;"), 0, 6, 2, 7, 29, 93 * 29 + 4952,
            7 * 71 + 6603 - 4952, 203);
        String holds = "holds a right paper 8;holds b left thumb 3;";
        tells(Due.with(TWO + holds + "pull 100*low+10*other+seam;"), 0, 830, 380, 0, 0, 6800, 3200, 0);
        tells(Due.with(TWO + holds + "pull seam+2*paper+4*thumb;"), 0, 2, 4, 0, 0, 3300, 6700, 0);
        tells(Due.with(TWO + holds + "pull seam+2*paper+4*thumb;"), 1, 1, 1, 0, 0, 5000, 5000, 0);
        x = Due.with(Due.people(1, 2, 3, 4, 5, 6));
        x.change(0, 2);
        tells(x, 0, 5, 4, 0, 0, 5500, 4500, 0);
        tells(x, 2, 1, 6, 0, 0, 1400, 8600, 0);
    }

    private static void sum(String sum, int due) {
        CrackerRing x = Due.with(Due.people(0, 0));
        DUE.is("sum " + sum, Due.ask(x, "most " + sum), due);
    }

    private static void sums() {
        sum("2+3*4-5", 9);
        sum("9-4-3", 2);
        sum("100/7/2", 7);
        sum("7/2*2", 6);
        sum("(0-7)/2", -4);
        sum("7/(0-2)", -4);
        sum("(0-7)/(0-2)", 3);
        sum("7/0", 0);
        sum("7/(3-3)*5+1", 1);
        sum("9999*9999", 1000000);
        sum("0-9999*9999", -1000000);
        sum("0-9999*9999-1", -1000000);
        sum("9999*9999+1-1", 999999);
        sum("(0-9999*9999)*9999", -1000000);
        sum("9999*9999*0", 0);
        sum("min(3,4)+max(3,4)*10", 43);
        sum("min(0-3,4)", -3);
        sum("(0005)", 5);
        DUE.is("total is not held", Due.ask(Due.with(TWO), "total 9999*9999"), 2000000L);
        DUE.is("total is not held", Due.ask(Due.with(TWO), "total 0-9999*9999"), -2000000L);
    }

    private static void odds() {
        CrackerRing x = Due.with(TWO + "slip 5;");
        // cracker 0: B = 9025, F = 6768; cracker 1: F = floor(9025 * 42 / 100) = 3790
        DUE.is("10: right", x.cracker(0, 4), 475 + 6768);
        DUE.is("10: left", x.cracker(1, 5), 475 + 9025 - 3790);
        long p = 7243;
        long q = 5710;
        DUE.is("11: NONE", x.odds(0, 0), (10000 - p) * (10000 - q) / 100);
        DUE.is("11: ONE", x.odds(0, 1), (p * (10000 - q) + q * (10000 - p)) / 100);
        DUE.is("11: TWO", x.odds(0, 2), p * q / 100);
        DUE.is("11: three", x.odds(0, 3), -1);
        DUE.is("11: -1", x.odds(0, -1), -1);
        DUE.is("11: no seat", x.odds(2, 0), -1);
        DUE.is("11: no seat", x.odds(-1, 0), -1);
        DUE.is("11: no CRACKER", Due.with(Due.people(1, 1)).odds(0, 0), -1);
        long r = 475 + 3790;
        long s = 475 + 9025 - 6768;
        DUE.is("12: mean(0)", x.mean(0), ((10000 - p) * (10000 - q) + (10000 - r) * (10000 - s)) / 100000);
        DUE.is("12: mean(2)", x.mean(2), (p * q + r * s) / 100000);
        DUE.is("12: mean(3)", x.mean(3), -1);
        DUE.is("12: mean(-1)", x.mean(-1), -1);
        DUE.is("12: no CRACKER", Due.with(Due.people(1, 1)).mean(0), -1);
        DUE.is("13: all can slip", x.most(), 2);
        DUE.is("13: one has both", Due.with(TWO).most(), 1);
        DUE.is("13: each has one", Due.with(Due.people(1, 0, 1, 0)).most(), 0);
        DUE.is("13: three of six", Due.with(Due.people(1, 1, 1, 1, 1, 1, 1, 1, 1, 1, 1, 1)).most(), 3);
        DUE.is("13: three of seven", Due.with(Due.people(1, 1, 1, 1, 1, 1, 1, 1, 1, 1, 1, 1, 1, 1)).most(), 3);
        DUE.is("13: no CRACKER", new CrackerRing().most(), -1);
        // by 1 of 10000 a CRACKER goes the other way
        x = Due.with(Due.people(1, 2, 0, 99) + "slip max(0,2-arm)*min(1,arm)*99;");
        DUE.is("10: right", x.cracker(0, 4), 1);
        DUE.is("13: seldom", x.most(), 1);
        DUE.is("13: never", Due.with(Due.people(0, 2, 0, 99)).most(), 0);
        x = Due.with(Due.people(99, 0, 9, 1) + "slip max(0,2-arm)*min(1,arm)*99;");
        DUE.is("10: left", x.cracker(0, 5), 1);
        DUE.is("13: seldom", x.most(), 1);
        // the left HANDS alone slip, a right one at 100 has its CRACKER never
        DUE.is("13: none under the table", Due.with(Due.people(1, 1, 1, 1) + "slip 100*seam;holds a left paper 5;holds b left paper 5;").most(), 0);
    }

    private static void row(CrackerRing x, int mean, int... due) {
        DUE.is("14: seats(NONE)", x.seats(-1), mean);
        for (int k = 0; k < due.length; k++) {
            DUE.is("14: seats(" + k + ")", x.seats(k), due[k]);
        }
        DUE.is("14: behind it", x.seats(due.length), -1);
        DUE.is("14: seats(-2)", x.seats(-2), -1);
    }

    private static void seats() {
        row(Due.with(Due.people(1, 1, 1, 1)), 500, 0, 1);
        row(Due.with(Due.people(1, 1, 1, 1, 1, 1, 1, 1)), 1000, 0, 1, 2, 3);
        // all rows are alike: two who surely have one, two by one half, or all by one half at both HANDS
        CrackerRing x = Due.with(Due.people(1, 0, 1, 0, 0, 1, 0, 1));
        row(x, 1000, 0, 1, 2, 3);
        x = Due.with(Due.people(9, 9, 0, 0, 9, 9, 0, 0));
        DUE.is("12: mean as it is", x.mean(0), 2000);
        row(x, 1000, 0, 1, 3, 2);
        x.change(0, 1);
        row(x, 1000, 0, 1, 2, 3);
        x = Due.with(Due.people(1, 1));
        DUE.is("14: no CRACKER", x.seats(-1), -1);
        DUE.is("14: no CRACKER", x.seats(0), -1);
        // the first one stays first, though another one sits there then
        x = Due.with(Due.people(9, 9, 0, 0, 9, 9, 0, 0));
        x.change(0, 3);
        row(x, 1000, 0, 1, 2, 3);
    }

    private static void howToHold() {
        CrackerRing x = Due.with(THREE + "pull arm*10+(9-low)*thumb;slip paper*10;");
        // by the thumb, low 0: 69 of 69 + 20
        DUE.is("15: how", x.best(0, 0, 0), 20);
        DUE.is("15: odds", x.best(0, 0, 1), 7700);
        DUE.is("15: it stays", x.seat(0, 4), 0);
        DUE.is("15: what 2", x.best(0, 0, 2), -1);
        DUE.is("15: what -1", x.best(0, 0, -1), -1);
        DUE.is("15: hand 2", x.best(0, 2, 0), -1);
        DUE.is("15: hand -1", x.best(0, -1, 0), -1);
        DUE.is("15: no seat", x.best(3, 0, 0), -1);
        DUE.is("15: no seat", x.best(-1, 0, 0), -1);
        DUE.is("15: no CRACKER", Due.with(Due.people(1, 1)).best(0, 0, 0), -1);
        x = Due.with(TWO + "pull 10-other;");
        DUE.is("15: what the other one has by it", x.best(1, 1, 0), 9);
        DUE.is("15: odds", x.best(1, 1, 1), 8400);
        x = Due.with(TWO + "pull arm+paper+thumb;");
        DUE.is("15: the first GRIP", x.best(0, 1, 0), 10);
        DUE.is("15: odds 0", Due.with(Due.people(0, 0, 5, 5)).best(0, 0, 1), 0);
        rest();
    }

    private static void rest() {
        CrackerRing x = Due.with(THREE + "pull arm*10+paper*low*low;holds ann right thumb 3;");
        DUE.is("16: two rounds", x.rests(-1, 0), 2);
        DUE.is("16: right", x.rests(0, 0), 19);
        DUE.is("16: left", x.rests(0, 1), 19);
        DUE.is("16: it stays", x.seat(0, 6), 3);
        DUE.is("16: hand 2", x.rests(0, 2), -1);
        DUE.is("16: no seat", x.rests(3, 0), -1);
        DUE.is("16: no seat", x.rests(-2, 0), -1);
        x = Due.with(TWO + "holds a right thumb 3;");
        DUE.is("16: at once", x.rests(-1, 1), 1);
        DUE.is("16: as it holds", x.rests(0, 0), 23);
        DUE.is("16: no CRACKER", Due.with(Due.people(1, 1)).rests(-1, 0), -1);
        DUE.is("16: no CRACKER", Due.with(Due.people(1, 1)).rests(0, 0), -1);
        // matching pennies: the right HAND wants to be as low as the other one, the left one otherwise
        String pennies = "holds a right seam 0;holds b left seam 0;holds b right seam 0;holds a left seam 0;";
        String same = "max(0,1-max(low-other,other-low))";
        x = Due.with(Due.people(1, 9, 1, 9) + pennies + "pull (9-arm)*" + same + "+(arm-1)*(1-" + same + ");");
        DUE.is("16: 12 are not enough", x.rests(-1, 0), 13);
        x.hold(0, 0, 2, 7);
        DUE.is("16: held otherwise", x.rests(-1, 0), 13);
    }

    private static void thumbed() {
        CrackerRing x = Due.with(TWO + "pull arm+2*thumb;holds a right paper 5;");
        // the thumb: 8 of 10, the seam: 6 of 8
        DUE.is("17: one of one", x.thumb(0, 0, 1, 1), 8000 * 1000 / 15500);
        DUE.is("17: none of one", x.thumb(0, 0, 1, 0), 2000 * 1000 / 4500);
        DUE.is("17: two of three", x.thumb(0, 0, 3, 2), 1000L * 64 * 2 * 1000 / (64 * 2 * 1000 + 7500L * 75 * 25 / 10 / 10));
        DUE.is("17: it stays", x.seat(0, 4), 1);
        DUE.is("17: n 0", x.thumb(0, 0, 0, 0), -1);
        DUE.is("17: n 4", x.thumb(0, 0, 4, 0), -1);
        DUE.is("17: w -1", x.thumb(0, 0, 3, -1), -1);
        DUE.is("17: w above n", x.thumb(0, 0, 2, 3), -1);
        DUE.is("17: hand 2", x.thumb(0, 2, 2, 1), -1);
        DUE.is("17: hand -1", x.thumb(0, -1, 2, 1), -1);
        DUE.is("17: no seat", x.thumb(2, 0, 2, 1), -1);
        DUE.is("17: no CRACKER", Due.with(Due.people(1, 1)).thumb(0, 0, 1, 1), -1);
        x = Due.with(Due.people(0, 0, 5, 5));
        DUE.is("17: both are 0", x.thumb(0, 0, 3, 1), 500);
        DUE.is("17: both are 1", x.thumb(0, 0, 3, 0), 500);
        x = Due.with(Due.people(0, 0, 5, 5) + "pull arm*seam;");
        DUE.is("17: surely not", x.thumb(0, 0, 2, 1), 500);
        DUE.is("17: the left one", x.thumb(1, 1, 2, 2), 0 + 1000 * 2500 / (2500 + 10000));
    }

    private static void duds() {
        CrackerRing x = Due.with("box a duds 10;box b duds 90;box c duds 10;box d duds 50;");
        DUE.is("18: like ones", x.duds(1, 0, 0), 0);
        DUE.is("18: share", x.duds(1, 0, 1), 90 * 1000 / 240);
        DUE.is("18: one of one", x.duds(1, 1, 0), 1);
        DUE.is("18: three of six", x.duds(6, 3, 0), 3);
        DUE.is("18: three of six", x.duds(6, 3, 1), 15625000000L * 1000 / (15625000000L + 3L * 729000000L));
        DUE.is("18: m 0", x.duds(0, 0, 0), -1);
        DUE.is("18: m 7", x.duds(7, 0, 0), -1);
        DUE.is("18: d -1", x.duds(1, -1, 0), -1);
        DUE.is("18: d above m", x.duds(1, 2, 0), -1);
        DUE.is("18: what 2", x.duds(1, 1, 2), -1);
        DUE.is("18: what -1", x.duds(1, 1, -1), -1);
        DUE.is("18: no BOXES", Due.with(TWO).duds(1, 1, 0), -1);
        x = Due.with("box a duds 0;box b duds 100;");
        DUE.is("18: all are 0", x.duds(2, 1, 0), 0);
        DUE.is("18: all are 0", x.duds(2, 1, 1), 0);
        DUE.is("18: surely", x.duds(6, 6, 0), 1);
        DUE.is("18: surely", x.duds(6, 6, 1), 1000);
    }

    private static void pairs() {
        DUE.is("19: two", Due.with(TWO).pairs(), 1000);
        DUE.is("19: three", Due.with(THREE).pairs(), 2000);
        DUE.is("19: four", Due.with(Due.people(1, 1, 1, 1, 1, 1, 1, 1)).pairs(), 2000);
        DUE.is("19: slips", Due.with(TWO + "slip 50;").pairs(), 1250);
        DUE.is("19: floor", Due.with(TWO + "slip 5;").pairs(), 1002);
        DUE.is("19: no CRACKER", Due.with(Due.people(1, 1)).pairs(), -1);
        CrackerRing x = Due.with(THREE + "slip max(0,arm-8)*20;");
        DUE.is("19: ann and bob", x.pairs(), 2000);
        x.change(0, 2);
        DUE.is("19: cid and bob", x.pairs(), 2000);
        x.change(1, 2);
        DUE.is("19: cid and ann", x.pairs(), 2000);
        x = Due.with(THREE + "slip 10*arm;");
        DUE.is("19: ann and bob slip", x.pairs(), 2120);
    }

    private static CrackerRing hats(int... hats) {
        StringBuilder b = new StringBuilder(Due.people(new int[2 * hats.length]));
        for (int i = 0; i < hats.length; i++) {
            b.append("hats ").append((char) ('a' + i)).append(' ').append(hats[i]).append(';');
        }
        return Due.with(b.toString());
    }

    private static void gifts() {
        DUE.is("20: none needed", hats(1, 1, 1).gifts(), 0);
        DUE.is("20: two", hats(2, 0).gifts(), 1);
        DUE.is("20: too few", hats(1, 0).gifts(), -1);
        DUE.is("20: just enough", hats(8, 0, 0, 0, 0, 0, 0, 0).gifts(), 1 + 1 + 2 + 2 + 3 + 3 + 4);
        DUE.is("20: more than enough", hats(9, 0, 0, 0, 0, 0, 0, 0).gifts(), 16);
        DUE.is("20: two sources", hats(3, 0, 0, 2, 0).gifts(), 3);
        DUE.is("20: through others", hats(1, 0, 1, 2, 1).gifts(), 2);
        DUE.is("20: around", hats(0, 1, 1, 1, 1, 2).gifts(), 1);
        DUE.is("20: not the next one", hats(0, 2, 0, 1, 2).gifts(), 2);
        DUE.is("20: no CRACKER", hats(5).gifts(), -1);
        DUE.is("20: nobody", new CrackerRing().gifts(), -1);
        CrackerRing x = hats(0, 2, 1, 1);
        x.change(1, 2);
        DUE.is("20: as they sit", x.gifts(), 2);
    }

    private static void left() {
        CrackerRing x = hats(5, 0, 0, 0, 0);
        DUE.is("21: rounds", x.left(0), 7);
        DUE.is("21: gifts", x.left(1), 10);
        DUE.is("21: all stays", x.seat(0, 1), 5);
        DUE.is("21: what 2", x.left(2), -1);
        DUE.is("21: what -1", x.left(-1), -1);
        DUE.is("21: at once", hats(1, 1).left(0), 0);
        DUE.is("21: at once", hats(1, 1).left(1), 0);
        DUE.is("21: never", hats(1, 0).left(0), -1);
        DUE.is("21: no CRACKER", hats(1).left(0), -1);
        DUE.is("21: behind the last one", hats(0, 1, 2).left(0), 1);
        x = hats(2, 1, 0);
        DUE.is("21: to the left alone", x.left(0), 2);
        DUE.is("25: a gave", x.pass(), 1);
        DUE.is("25: b has two", x.seat(1, 1), 2);
        DUE.is("25: b gave", x.pass(), 1);
        DUE.is("25: none gives", x.pass(), 0);
        DUE.is("25: ACTS", x.has(9), 3);
        DUE.is("25: no CRACKER", hats(2).pass(), -1);
        x = hats(2);
        x.pass();
        DUE.is("25: refused", x.status(3), 1);
        DUE.is("25: no ACT", x.has(9), 0);
        x = hats(3, 2, 0);
        DUE.is("25: all at once", x.pass(), 2);
        DUE.is("25: a", x.seat(0, 1), 2);
        DUE.is("25: b", x.seat(1, 1), 2);
        DUE.is("25: c", x.seat(2, 1), 1);
        x = hats(9, 9);
        Due.restore(x, Due.image(0, 0, 0, 0, 0, 0, 0, 99, 0, 5, 0, 5, 1, 99, 0, 5, 0, 5));
        DUE.is("25: 99 stay", x.pass(), 2);
        DUE.is("25: 99 stay", x.seat(0, 1), 99);
    }

    private static void dine() {
        CrackerRing x = Due.with(Due.people(1, 0, 1, 0) + "bang 50;");
        DUE.is("22: n 0", x.dine(0), -1);
        DUE.is("22: n 51", x.dine(51), -1);
        DUE.is("22: n -1", x.dine(-1), -1);
        DUE.is("22: refused", x.status(2), 3);
        DUE.is("22: no ACT", x.has(9), 0);
        int bangs = bangs(0, 3 * 2);
        DUE.is("22: three", x.dine(3), bangs);
        DUE.is("22: BANGS", x.has(5), bangs);
        DUE.is("22: DINNERS", x.has(4), 3);
        DUE.is("22: one ACT", x.has(9), 1);
        DUE.is("22: each wins his right one", x.seat(0, 1), 3);
        DUE.is("22: each wins his right one", x.seat(1, 1), 3);
        DUE.is("22: 50 more", x.dine(50), bangs(3 * 2, 53 * 2));
        DUE.is("22: and 50 more", x.dine(50), bangs(53 * 2, 103 * 2));
        DUE.is("22: BANGS", x.has(5), bangs(0, 103 * 2));
        DUE.is("22: 99 at most", x.has(7), 198);
        x.undo();
        DUE.is("27: undone", x.has(7), 106);
        x = Due.with(TWO + "slip 100;bang 0;");
        DUE.is("22: bang 0", x.dine(50), 0);
        DUE.is("22: under the table", x.has(6), 100);
        DUE.is("22: no HATS", x.has(7), 0);
        DUE.is("22: no CRACKER", Due.with(Due.people(1, 1)).dine(1), -1);
        x = Due.with(TWO + "slip 100;");
        Due.restore(x, Due.image(39, 14, 39, 14, 39, 14, 0, 0, 0, 5, 0, 5, 1, 0, 0, 5, 0, 5));
        DUE.is("22: above 9999", x.dine(50), -1);
        DUE.is("22: above 9999", x.dine(2), -1);
        DUE.is("22: all stays", x.has(4), 9998);
        DUE.is("22: to 9999", x.dine(1), 2);
        DUE.is("22: DINNERS", x.has(4), 9999);
        DUE.is("22: BANGS", x.has(5), 9999);
        DUE.is("22: under the table", x.has(6), 9999);
        DUE.is("22: one more", x.dine(1), -1);
        Due.restore(x, Due.image(0, 0, 39, 14, 39, 14, 0, 0, 0, 5, 0, 5, 1, 0, 0, 5, 0, 5));
        DUE.is("22: all BANGS are told", x.dine(5), 10);
        DUE.is("22: 9999 at most", x.has(5), 9999);
        DUE.is("22: 9999 at most", x.has(6), 9999);
    }

    /** How many BANGS, by seed 1 and one half, the CRACKERS from one on to another one make. */
    private static int bangs(int from, int to) {
        long seed = 1;
        int bangs = 0;
        for (int i = 0; i < to; i++) {
            seed = (1103515245L * seed + 12345L) % (1L << 31);
            seed = (1103515245L * seed + 12345L) % (1L << 31);
            bangs += i >= from && seed / 64 % 100 < 50 ? 1 : 0;
        }
        return bangs;
    }

    private static void acts() {
        CrackerRing x = Due.with(TWO + "hats a 2;");
        DUE.is("23: hold", x.hold(0, 1, 2, 9), true);
        DUE.is("23: GRIP", x.seat(0, 5), 2);
        DUE.is("23: low", x.seat(0, 7), 9);
        DUE.is("23: the right one stays", x.seat(0, 4), 0);
        DUE.is("23: the right one stays", x.seat(0, 6), 5);
        int[][] wrong = {{2, 0, 0, 0}, {-1, 0, 0, 0}, {0, 2, 0, 0}, {0, -1, 0, 0}, {0, 0, 3, 0}, {0, 0, -1, 0},
            {0, 0, 0, 10}, {0, 0, 0, -1}};
        for (int[] w : wrong) {
            DUE.is("23: that can't be", x.hold(w[0], w[1], w[2], w[3]), false);
        }
        DUE.is("23: refused", x.status(2), 8);
        DUE.is("23: ACTS", x.has(9), 1);
        DUE.is("23: one alone holds too", Due.with(Due.people(1, 1)).hold(0, 0, 0, 0), true);
        DUE.is("24: give", x.give(0, 1), true);
        DUE.is("24: from", x.seat(0, 1), 1);
        DUE.is("24: to", x.seat(1, 1), 1);
        DUE.is("24: one", x.give(0, 0), false);
        DUE.is("24: no seat", x.give(0, 2), false);
        DUE.is("24: no seat", x.give(-1, 0), false);
        DUE.is("24: give", x.give(0, 1), true);
        DUE.is("24: he has none", x.give(0, 1), false);
        DUE.is("24: refused", x.status(3), 4);
        DUE.is("26: change", x.change(1, 0), true);
        DUE.is("26: who", x.seat(0, 0), 1);
        DUE.is("26: his HATS", x.seat(0, 1), 2);
        DUE.is("26: one", x.change(1, 1), false);
        DUE.is("26: no seat", x.change(1, 2), false);
        DUE.is("26: no seat", x.change(-1, 1), false);
        DUE.is("26: refused", x.status(3), 7);
        DUE.is("6: ACTS", x.has(9), 4);
        DUE.is("24: as they sit", x.give(0, 1), true);
        Due.restore(x, Due.image(0, 0, 0, 0, 0, 0, 0, 99, 0, 5, 0, 5, 1, 98, 0, 5, 0, 5));
        DUE.is("24: to 99", x.give(0, 1), true);
        DUE.is("24: the other one has 99", x.give(0, 1), false);
    }

    private static void undo() {
        CrackerRing x = Due.with(THREE + "hats ann 9;slip 3;bang 70;");
        DUE.is("27: none", x.undo(), false);
        DUE.is("27: refused", x.status(4), 1);
        x.hold(1, 0, 2, 3);
        x.dine(5);
        int[] before = all(x);
        x.change(0, 2);
        x.hold(0, 0, 1, 1);
        x.give(2, 0);
        x.pass();
        x.dine(7);
        for (int i = 0; i < 5; i++) {
            DUE.is("27: undo", x.undo(), true);
        }
        int[] after = all(x);
        for (int i = 0; i < before.length; i++) {
            DUE.is("27: all as before: " + i, after[i], before[i]);
        }
        DUE.is("27: odds as before", x.seats(-1), x.seats(-1));
        DUE.is("6: left", x.has(9), 2);
        x.undo();
        DUE.is("27: DINNERS", x.has(4), 0);
        x.undo();
        DUE.is("27: GRIP", x.seat(1, 4), 0);
        DUE.is("27: none left", x.undo(), false);
        for (int i = 0; i < 25; i++) {
            x.hold(0, 0, 0, i % 10);
        }
        DUE.is("6: 20 at most", x.has(9), 20);
        for (int i = 0; i < 20; i++) {
            DUE.is("27: how low", x.seat(0, 6), (24 - i) % 10);
            DUE.is("27: undo", x.undo(), true);
        }
        DUE.is("27: how low ahead", x.seat(0, 6), 4);
        DUE.is("27: none more", x.undo(), false);
        restsAnew();
    }

    /** What was found out once is found out anew when they hold or sit otherwise. */
    private static void restsAnew() {
        CrackerRing x = Due.with(Due.people(9, 9, 0, 0, 9, 9, 0, 0) + "pull arm+seam;");
        int row = x.seats(-1);
        int rest = x.rests(-1, 0);
        x.change(0, 1);
        DUE.is("26: another row", x.seats(3), 3);
        x.undo();
        DUE.is("27: the row again", x.seats(3), 2);
        DUE.is("27: the row again", x.seats(-1), row);
        x.hold(1, 0, 1, 4);
        DUE.is("23: it rests otherwise", x.rests(-1, 0), 2);
        DUE.is("23: it rests otherwise", x.rests(1, 0), 0);
        x.undo();
        DUE.is("27: it rests again", x.rests(-1, 0), rest);
        DUE.is("27: it rests again", x.rests(1, 0), 5);
        x.hold(1, 0, 1, 4);
        Due.restore(x, Due.image(0, 0, 0, 0, 0, 0, 0, 0, 0, 5, 0, 5, 1, 0, 0, 7, 0, 5, 2, 0, 0, 5, 0, 5, 3, 0, 0, 5, 0, 5));
        DUE.is("32: it rests anew", x.rests(1, 0), 7);
        Due.table(x, TWO);
        DUE.is("4: anew", x.rests(1, 0), 5);
        DUE.is("4: anew", x.seats(-1), x.mean(0));
    }

    private static int[] all(CrackerRing x) {
        int[] all = new int[60];
        int n = x.image();
        for (int k = 0; k < n; k++) {
            all[k] = x.octet(k);
        }
        return all;
    }

    private static void seeds() {
        CrackerRing x = Due.with(TWO + "bang 50;slip 30;");
        DUE.is("28: below 0", x.seed(-1), false);
        DUE.is("28: lowest", x.seed(Integer.MIN_VALUE), false);
        DUE.is("28: refused", x.status(5), 2);
        int first = x.dine(20);
        int[] once = all(x);
        x.undo();
        DUE.is("28: 1 at first", x.seed(1), true);
        DUE.is("28: the same", x.dine(20), first);
        int[] twice = all(x);
        for (int i = 0; i < once.length; i++) {
            DUE.is("28: the same", twice[i], once[i]);
        }
        DUE.is("28: 0", x.seed(0), true);
        DUE.is("28: no ACT", x.has(9), 1);
        // by seed 0 the DRAWS are 192 of 10000, 21 of 100, 7871 of 10000, 20 of 100
        x = Due.with(Due.people(2, 0, 1, 98) + "bang 21;");
        x.seed(0);
        DUE.is("22: the second one bangs", x.dine(1), 1);
        DUE.is("22: a has the first one", x.seat(0, 1), 1);
        DUE.is("22: b has the second one", x.seat(1, 1), 1);
        // right 96 * 2 = 192, which the DRAW is not below; 9800 more are the left one's
        x = Due.with(Due.people(0, 1, 0, 1) + "slip 2+2*(1-min(1,arm));");
        DUE.is("10: right", x.cracker(0, 4), 192);
        x.seed(0);
        x.dine(1);
        DUE.is("22: not below it", x.seat(1, 1) > 0, true);
        // by seed FIRST_ZERO the first DRAW is 0, which is not below 0
        x = Due.with(Due.people(0, 0, 0, 0) + "slip 100;");
        x.seed(FIRST_ZERO);
        x.dine(1);
        DUE.is("22: not below both together", x.has(6), 2);
        DUE.is("22: not below both together", x.has(7), 0);
        x = Due.with(Due.people(0, 1, 0, 1));
        x.seed(FIRST_ZERO);
        x.dine(1);
        DUE.is("22: the left ones", x.seat(0, 1) + 10 * x.seat(1, 1), 11);
        x = Due.with(Due.people(1, 0, 1, 99) + "bang 20;");
        x.seed(0);
        DUE.is("22: none bangs", x.dine(1), 0);
        DUE.is("22: b has both", x.seat(1, 1), 2);
        DUE.is("28: highest", x.seed(Integer.MAX_VALUE), true);
    }

    private static void questions() {
        CrackerRing x = Due.with(THREE + "hats ann 2;hats cid 5;holds cid left thumb 3;holds cid right thumb 3;holds bob left thumb 1;");
        asks(x, "first hats>0", 0);
        asks(x, "last hats>0", 2);
        asks(x, "often hats>0", 2);
        asks(x, "first hats=1", -1);
        asks(x, "last hats=1", -1);
        asks(x, "often hats=1", 0);
        asks(x, "total hats", 7);
        asks(x, "most hats", 5);
        asks(x, "least hats", 0);
        asks(x, "most 0-left", -2);
        asks(x, "least 0-left", -9);
        asks(x, "total thumb*thumb", 5);
        asks(x, "total number*10", 30);
        asks(x, "total right*100+left", 1815);
        asks(x, "often not hats=0", 2);
        asks(x, "often hats=2 or hats=5 and right<6", 1);
        asks(x, "often [hats=2 or hats=5]and right<7", 1);
        asks(x, "often not hats=2 and not hats=5", 1);
        asks(x, "often not[hats=2 or all]", 0);
        asks(x, "total wins number", x.cracker(0, 4) + x.cracker(1, 4) + x.cracker(2, 4));
        asks(x, "most wins(number+2)*(1-min(1,number))", x.cracker(2, 5));
        asks(x, "total wins 0 + 1", 10003);
        asks(x, "total wins 3", 0);
        asks(x, "total wins(0-1)", 0);
        asks(x, "total wins wins 9", 10000);
        x.change(0, 2);
        asks(x, "first hats=2", 2);
        asks(x, "most (1-min(1,number))*wins 0", x.cracker(0, 4));
        asks(Due.with(Due.people(5, 5)), "total wins 0+wins(0-1)", 0);
        asks(Due.with(Due.people(5, 5)), "often all", 1);
        CrackerRing none = new CrackerRing();
        asks(none, "first all", -1);
        asks(none, "most 7", 0);
        asks(none, "least 7", 0);
        asks(none, "total 7", 0);
        DUE.is("29: a FAULT", Due.ask(x, "total x"), CrackerRing.NOTHING);
        DUE.is("29: the tape goes", x.end(1), false);
        DUE.is("29: not counted", x.status(1), 0);
    }

    private static void asks(CrackerRing x, String question, long due) {
        DUE.is("29: " + question, Due.ask(x, question), due);
        DUE.is("29: the tape goes", x.end(1), false);
    }

    private static void images() {
        CrackerRing x = Due.with(TWO + "hats b 4;holds a right paper 9;holds a left thumb 8;");
        DUE.is("31: ahead of any", x.octet(0), -1);
        x.change(0, 1);
        Due.restore(x, Due.image(1, 2, 3, 4, 5, 6, 1, 98, 2, 1, 1, 2, 0, 7, 0, 3, 2, 4));
        DUE.is("32: DINNERS", x.has(4), 258);
        DUE.is("32: BANGS", x.has(5), 772);
        DUE.is("32: under the table", x.has(6), 1286);
        DUE.is("32: nothing can be undone", x.has(9), 0);
        int[] seat = {1, 98, 3, 2, 2, 1, 1, 2};
        for (int what = 0; what < 8; what++) {
            DUE.is("32: seat(0, " + what + ")", x.seat(0, what), seat[what]);
        }
        DUE.is("30: image", x.image(), 19);
        int[] due = Due.image(1, 2, 3, 4, 5, 6, 1, 98, 2, 1, 1, 2, 0, 7, 0, 3, 2, 4);
        for (int k = 0; k < 19; k++) {
            DUE.is("31: octet(" + k + ")", x.octet(k), due[k]);
        }
        DUE.is("31: octet(19)", x.octet(19), -1);
        DUE.is("31: octet(-1)", x.octet(-1), -1);
        x.give(0, 1);
        DUE.is("31: of the latest image()", x.octet(7), 98);
        Due.table(x, "");
        DUE.is("31: of the latest image()", x.octet(18), due[18]);
        DUE.is("30: nobody", x.image(), 7);
        DUE.is("31: octet(7)", x.octet(7), -1);
    }

    private static void wrongImages() {
        int[] right = {39, 15, 39, 15, 39, 15, 1, 99, 2, 9, 2, 9, 0, 0, 0, 0, 0, 0};
        int[][] wrong = {{1, 16}, {3, 16}, {5, 16}, {0, 40}, {6, 0}, {6, 2}, {12, 1}, {12, 2}, {7, 100}, {8, 3}, {9, 10}, {10, 3},
            {11, 10}, {13, 100}, {14, 3}, {15, 10}, {16, 3}, {17, 10}, {17, 255}};
        CrackerRing x = Due.with(TWO + "hats a 1;");
        x.give(0, 1);
        int refused = 0;
        for (int[] w : wrong) {
            int[] spoilt = right.clone();
            spoilt[w[0]] = w[1];
            DUE.is("32: byte " + w[0] + " is " + w[1], Due.restore(x, Due.image(spoilt)), false);
            refused++;
            DUE.is("32: the tape goes", x.end(1), false);
        }
        int[] check = Due.image(right);
        check[18] = (check[18] + 1) % 251;
        DUE.is("32: the last byte", Due.restore(x, check), false);
        DUE.is("32: too short", Due.restore(x, Due.image(java.util.Arrays.copyOf(right, 17))), false);
        DUE.is("32: too long", Due.restore(x, Due.image(java.util.Arrays.copyOf(right, 19))), false);
        DUE.is("32: nothing", Due.restore(x), false);
        DUE.is("32: of another TABLE", Due.restore(x, Due.image(java.util.Arrays.copyOf(right, 12))), false);
        DUE.is("32: refused", x.status(5), refused + 5);
        DUE.is("32: all stays", x.has(9), 1);
        DUE.is("32: all stays", x.seat(1, 1), 1);
        DUE.is("32: the right one", Due.restore(x, Due.image(right)), true);
        DUE.is("32: DINNERS", x.has(4), 9999);
        DUE.is("32: refused no more", x.status(5), refused + 5);
        DUE.is("32: no undo", x.undo(), false);
    }

    private static void statuses() {
        CrackerRing x = new CrackerRing();
        x.end(1);
        x.end(-1);
        Due.table(x, "x");
        x.dine(1);
        x.hold(0, 0, 0, 0);
        x.dine(1);
        x.give(0, 1);
        x.pass();
        x.change(0, 1);
        x.change(0, 0);
        x.undo();
        x.seed(-5);
        x.restore();
        x.ask();
        int[] due = {2, 1, 3, 4, 1, 2};
        for (int what = 0; what < 6; what++) {
            DUE.is("33: status(" + what + ")", x.status(what), due[what]);
        }
        DUE.is("33: status(6)", x.status(6), -1);
        DUE.is("33: status(-1)", x.status(-1), -1);
    }

    public static void main(String[] args) {
        newObject();
        feedAndEnd();
        tables();
        whatThereIs();
        seat();
        crackers();
        sums();
        odds();
        seats();
        howToHold();
        thumbed();
        duds();
        pairs();
        gifts();
        left();
        dine();
        acts();
        undo();
        seeds();
        questions();
        images();
        wrongImages();
        statuses();
        DUE.end();
    }
}
