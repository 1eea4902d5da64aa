/** The edges that Terms I name, of THE TABLE's text: each sentence a test of its own. */
public final class EdgeTableTest {
    private static final Edge EDGE = new Edge("EdgeTableTest");
    private static final String ONE = "person a right 1 left 1;";
    private static final String TWO = Due.people(6, 4, 3, 2);
    private static final String EIGHT = Due.people(1, 1, 1, 1, 1, 1, 1, 1, 1, 1, 1, 1, 1, 1, 1, 1);

    private static void sixtyStatements() {
        EDGE.sentence(4, "A TABLE is a text: { STATEMENT ; } (60 at most)");
        EDGE.fine("", 0);
        EDGE.fine("bang 1;", 1);
        EDGE.fine("bang 1;".repeat(59), 59);
        EDGE.fine("bang 1;".repeat(60), 60);
        EDGE.fault(5, "bang 1;".repeat(60) + "^bang 1;");
        EDGE.fault(1, "bang 1;".repeat(59) + "bang 1^");
    }

    private static void people() {
        EDGE.sentence(4, "person NAME right N left N (0 .. 99, how strong; 8 PEOPLE)");
        CrackerRing x = EDGE.fine("person a right 0 left 99;person b right 99 left 0;", 2);
        EDGE.is("right 0", x.seat(0, 2), 0);
        EDGE.is("left 99", x.seat(0, 3), 99);
        EDGE.is("right 99", x.seat(1, 2), 99);
        EDGE.is("left 0", x.seat(1, 3), 0);
        EDGE.fault(2, "person a right ^100 left 1;");
        EDGE.fault(2, "person a right 1 left ^100;");
        EDGE.fault(1, "person a right ^-1 left 1;");
        EDGE.is("eight", EDGE.fine(EIGHT, 8).has(0), 8);
        EDGE.fault(5, EIGHT + "^person i right 1 left 1;");
    }

    private static void holds() {
        EDGE.sentence(4, "holds NAME HAND GRIP N (one of the PEOPLE; right or left; seam, paper, or thumb; how low: 0 .. 9;");
        CrackerRing x = EDGE.fine(EIGHT + "holds a right thumb 0;holds a left seam 9;holds h right paper 9;holds h left thumb 0;", 12);
        EDGE.is("the first one's right GRIP", x.seat(0, 4), 2);
        EDGE.is("the first one's left GRIP", x.seat(0, 5), 0);
        EDGE.is("low 0", x.seat(0, 6), 0);
        EDGE.is("low 9", x.seat(0, 7), 9);
        EDGE.is("the last one's right GRIP", x.seat(7, 4), 1);
        EDGE.is("the last one's left GRIP", x.seat(7, 5), 2);
        EDGE.is("low 9", x.seat(7, 6), 9);
        EDGE.is("low 0", x.seat(7, 7), 0);
        EDGE.fault(2, ONE + "holds a right seam ^10;");
        EDGE.fault(3, ONE + "holds ^b right seam 1;");
        EDGE.fault(3, ONE + "box b duds 1;holds ^b right seam 1;");
        EDGE.fault(1, ONE + "holds a ^seam 1;");
        EDGE.fault(1, ONE + "holds a right ^hats 1;");
        EDGE.fault(1, ONE + "holds a right ^box 1;");
        EDGE.fault(1, ONE + "holds a ^holds seam 1;");
    }

    private static void holdsTwice() {
        EDGE.sentence(4, "the last one of a HAND counts: seam, 5 without");
        CrackerRing x = EDGE.fine(ONE + "holds a right thumb 1;holds a left paper 2;holds a right paper 3;", 4);
        EDGE.is("the last one's GRIP", x.seat(0, 4), 1);
        EDGE.is("the last one's low", x.seat(0, 6), 3);
        EDGE.is("that of the other HAND stays", x.seat(0, 5), 1);
        EDGE.is("that of the other HAND stays", x.seat(0, 7), 2);
        x = EDGE.fine(ONE + "holds a right thumb 1;", 2);
        EDGE.is("seam without", x.seat(0, 5), 0);
        EDGE.is("5 without", x.seat(0, 7), 5);
        x = behindOthers(ONE + "holds a right thumb 1;holds a left thumb 1;", ONE);
        EDGE.is("seam without, behind other TABLES", x.seat(0, 4), 0);
        EDGE.is("seam without, behind other TABLES", x.seat(0, 5), 0);
        EDGE.is("5 without, behind other TABLES", x.seat(0, 6), 5);
        EDGE.is("5 without, behind other TABLES", x.seat(0, 7), 5);
    }

    /** An object with a TABLE, behind another one told twice, and once with a FAULT at its end. */
    private static CrackerRing behindOthers(String other, String text) {
        CrackerRing x = Due.with(other);
        Due.table(x, other);
        Due.table(x, other + "x");
        EDGE.is("table() of '" + text + "'", Due.table(x, text) >= 0, true);
        return x;
    }

    private static void boxes() {
        EDGE.sentence(4, "box NAME duds N (0 .. 100 of a hundred; 4 BOXES)");
        CrackerRing x = EDGE.fine("box a duds 0;box b duds 100;box c duds 1;box d duds 99;", 4);
        EDGE.is("four", x.has(2), 4);
        EDGE.is("duds 0", x.box(0), 0);
        EDGE.is("duds 100", x.box(1), 100);
        EDGE.is("the fourth", x.box(3), 99);
        EDGE.fault(2, "box a duds ^101;");
        EDGE.fault(5, "box a duds 0;box b duds 100;box c duds 1;box d duds 99;^box e duds 1;");
        EDGE.is("none without", EDGE.fine(ONE, 1).has(2), 0);
        EDGE.is("none without, behind other TABLES", behindOthers("box a duds 0;box b duds 1;", ONE).has(2), 0);
    }

    private static void hats() {
        EDGE.sentence(4, "hats NAME N (one of the PEOPLE, 0 .. 9; the last one counts: 0 without)");
        CrackerRing x = EDGE.fine(Due.people(1, 1, 1, 1, 1, 1) + "hats a 9;hats b 0;hats b 7;hats b 3;", 7);
        EDGE.is("hats 9", x.seat(0, 1), 9);
        EDGE.is("the last one", x.seat(1, 1), 3);
        EDGE.is("0 without", x.seat(2, 1), 0);
        EDGE.is("hats 0 is the last one", EDGE.fine(ONE + "hats a 5;hats a 0;", 3).seat(0, 1), 0);
        EDGE.fault(2, ONE + "hats a ^10;");
        EDGE.fault(3, ONE + "hats ^b 1;");
        EDGE.fault(3, ONE + "box b duds 1;hats ^b 1;");
        EDGE.is("0 without, behind other TABLES", behindOthers(TWO + "hats a 2;hats b 1;", TWO).has(7), 0);
    }

    private static void oneEach() {
        EDGE.sentence(4, "pull SUM, slip SUM (one each)");
        CrackerRing x = EDGE.fine(TWO + "slip 8;pull 7;", 4);
        EDGE.tells(x, 0, 7, 7, 8, 8);
        EDGE.fault(5, "pull 7;slip 8;^pull 7;");
        EDGE.fault(5, "pull 7;slip 8;^slip 8;");
        EDGE.fault(1, "pull ^;");
        EDGE.fault(1, "slip ^;");
        EDGE.tells(behindOthers(TWO + "pull 7;slip 8;", TWO), 0, 6, 2, 0, 0);
        EDGE.tells(behindOthers(TWO + "pull 7;slip 8;", TWO + "pull 1;"), 0, 1, 1, 0, 0);
        EDGE.tells(behindOthers(TWO + "pull 7;slip 8;", TWO + "slip 1;"), 0, 6, 2, 1, 1);
    }

    private static void bang() {
        EDGE.sentence(4, "bang N (0 .. 100; the last one counts, 100 without)");
        EDGE.is("0", EDGE.fine("bang 0;", 1).has(3), 0);
        EDGE.is("100", EDGE.fine("bang 5;bang 100;", 2).has(3), 100);
        CrackerRing x = EDGE.fine("bang 100;bang 7;bang 8;", 3);
        EDGE.is("the last one", x.has(3), 8);
        EDGE.fault(2, "bang ^101;");
        EDGE.is("100 without", EDGE.fine("", 0).has(3), 100);
        EDGE.is("100 without, behind other TABLES", behindOthers("bang 9;", "").has(3), 100);
    }

    private static void digits() {
        EDGE.sentence(4, "PART: N (1 to 4 digits)");
        EDGE.tells(EDGE.fine(TWO + "pull 7;slip 0007;", 4), 0, 7, 7, 7, 7);
        EDGE.tells(EDGE.fine(TWO + "pull 9999-9001;slip 0000;", 4), 0, 998, 998, 0, 0);
        EDGE.fault(1, "pull 1000^0;");
        EDGE.fault(1, "pull 0000^0;");
        EDGE.fault(1, "slip 1+9999^9;");
        EDGE.fault(1, "pull 1+^;");
    }

    private static void factsOfHands() {
        EDGE.sentence(4, "Of a HAND at a cracker how strong it is, how low it holds, how low the other one holds; 1 if it holds so, else 0.");
        String held = TWO + "holds a right seam 0;holds b left thumb 9;";
        EDGE.tells(EDGE.fine(held + "pull arm;", 5), 0, 6, 2);
        EDGE.tells(EDGE.fine(held + "pull low;", 5), 0, 0, 9);
        EDGE.tells(EDGE.fine(held + "pull other;", 5), 0, 9, 0);
        EDGE.tells(EDGE.fine(held + "pull seam;", 5), 0, 1, 0);
        EDGE.tells(EDGE.fine(held + "pull paper;", 5), 0, 0, 0);
        EDGE.tells(EDGE.fine(held + "pull thumb;", 5), 0, 0, 1);
        EDGE.tells(EDGE.fine(TWO + "holds a right paper 1;pull paper+10*seam+10*thumb;", 4), 0, 1, 10);
        CrackerRing x = Due.with(held);
        EDGE.asks(x, "total hats*right+left+number+thumb", 4 + 2 + 1 + 1);
        EDGE.is("table() behind a QUESTION", Due.table(x, held + "pull arm*10+low;"), 5);
        EDGE.tells(x, 0, 60, 29);
    }

    private static int sum(String sum) {
        return (int) Due.ask(Due.with(ONE), "total " + sum);
    }

    private static void fromTheLeft() {
        EDGE.sentence(4, "All from the left on;");
        EDGE.is("9-4-3", sum("9-4-3"), 2);
        EDGE.is("9-(4-3)", sum("9-(4-3)"), 8);
        EDGE.is("100/7/2", sum("100/7/2"), 7);
        EDGE.is("7/2*2", sum("7/2*2"), 6);
        EDGE.is("2*7/2", sum("2*7/2"), 7);
        EDGE.is("2+3*4", sum("2+3*4"), 14);
        EDGE.is("held at each step", sum("9999*9999-9999*9999+1"), 1);
        EDGE.is("held at each step", sum("1-9999*9999-1+9999*9999"), 0);
        EDGE.tells(Due.with(TWO + "pull 9-4-3;slip 7/2*2;"), 0, 2, 2, 6, 6);
    }

    private static void quotients() {
        EDGE.sentence(4, "/ gives the greatest whole number not above, by 0 it gives 0;");
        EDGE.is("6/3", sum("6/3"), 2);
        EDGE.is("5/3", sum("5/3"), 1);
        EDGE.is("0/3", sum("0/3"), 0);
        EDGE.is("(0-1)/3", sum("(0-1)/3"), -1);
        EDGE.is("(0-3)/3", sum("(0-3)/3"), -1);
        EDGE.is("(0-4)/3", sum("(0-4)/3"), -2);
        EDGE.is("4/(0-3)", sum("4/(0-3)"), -2);
        EDGE.is("(0-4)/(0-3)", sum("(0-4)/(0-3)"), 1);
        EDGE.is("5/0", sum("5/0"), 0);
        EDGE.is("0/0", sum("0/0"), 0);
        EDGE.is("(0-5)/0", sum("(0-5)/0"), 0);
        EDGE.is("5/(3-3)+1", sum("5/(3-3)+1"), 1);
        EDGE.tells(Due.with(TWO + "pull 5/(seam-1)+7;slip 9/(0-2)+9;"), 0, 7, 7, 4, 4);
    }

    private static void millions() {
        EDGE.sentence(4, "each sum, difference, product above 10 to the 6 is that, below -10 to the 6 likewise");
        EDGE.is("999999", sum("9999*100+99"), 999999);
        EDGE.is("a sum of 1000000", sum("9999*100+100"), 1000000);
        EDGE.is("a sum of 1000001", sum("9999*100+101"), 1000000);
        EDGE.is("a sum, held", sum("9999*100+101-1"), 999999);
        EDGE.is("a difference of 1000001", sum("9999*100-(0-101)"), 1000000);
        EDGE.is("a difference, held", sum("9999*100-(0-101)-1"), 999999);
        EDGE.is("a product of 1000000", sum("1000*1000"), 1000000);
        EDGE.is("a product of 1001000", sum("1001*1000"), 1000000);
        EDGE.is("a product, held", sum("1001*1000-1"), 999999);
        EDGE.is("a product far above", sum("9999*9999*9999-1"), 999999);
        EDGE.is("-999999", sum("0-9999*100-99"), -999999);
        EDGE.is("a difference of -1000000", sum("0-9999*100-100"), -1000000);
        EDGE.is("a difference of -1000001", sum("0-9999*100-101"), -1000000);
        EDGE.is("a difference, held", sum("0-9999*100-101+1"), -999999);
        EDGE.is("a sum of -1000001", sum("0-9999*100+(0-101)"), -1000000);
        EDGE.is("a sum, held", sum("0-9999*100+(0-101)+1"), -999999);
        EDGE.is("a product of -1000000", sum("(0-1000)*1000"), -1000000);
        EDGE.is("a product of -1001000", sum("(0-1001)*1000"), -1000000);
        EDGE.is("a product, held", sum("(0-1001)*1000+1"), -999999);
        EDGE.tells(Due.with(TWO + "pull 9999*9999-9999*100-99;slip 9999*100+(0-9999*9999)+107;"), 0, 1, 1, 7, 7);
    }

    private static void lengthOfNames() {
        EDGE.sentence(4, "NAMES: 1 to 6 letters");
        CrackerRing x = EDGE.fine("person z right 1 left 1;person abcdef right 1 left 1;box y duds 1;box ghijkl duds 2;"
            + "hats abcdef 2;holds abcdef left thumb 1;", 6);
        EDGE.is("six letters", x.letter(0, 1, 5), 6);
        EDGE.is("one letter", x.letter(0, 0, 0), 26);
        EDGE.is("one letter", x.letter(0, 0, 1), 0);
        EDGE.fault(1, "person abcdef^g right 1 left 1;");
        EDGE.fault(1, "box abcdef^g duds 1;");
        EDGE.fault(1, "hats abcdef^g 1;");
        EDGE.fault(1, "holds abcdef^g right seam 1;");
        EDGE.fault(1, "person ^7 right 1 left 1;");
        EDGE.fault(1, "person ^; right 1 left 1;");
        EDGE.fault(1, "person ^A right 1 left 1;");
        EDGE.fault(1, "person a^_ right 1 left 1;");
        EDGE.fault(1, "person a^{ right 1 left 1;");
        EDGE.fault(1, "person a^` right 1 left 1;");
    }

    private static void noOwnWord() {
        EDGE.sentence(4, "NAMES: 1 to 6 letters, no OWN WORD");
        String own = "person, right, left, holds, seam, paper, thumb, box, duds, hats, pull, slip, bang, arm, low, other, "
            + "number, wins, or, and, not, all, min, max";
        for (String word : own.split(", ")) {
            EDGE.fault(1, "person ^" + word + " right 1 left 1;");
            EDGE.fault(1, "box ^" + word + " duds 1;");
            EDGE.fault(1, "hats ^" + word + " 1;");
            EDGE.fault(1, "holds ^" + word + " right seam 1;");
            String longer = word.length() < 6 ? word + "x" : word.substring(0, 5);
            EDGE.fine("person " + longer + " right 1 left 1;", 1);
        }
        for (String word : "first last often total most least".split(" ")) {
            EDGE.fine("person " + word + " right 1 left 1;", 1);
            EDGE.fine("box " + word + " duds 1;", 1);
        }
        EDGE.sentence(4, "OWN WORDS: " + own + ".");
        EDGE.is("so many", own.split(", ").length, 24);
    }

    private static void unlikeNames() {
        EDGE.sentence(4, "unlike ones (of all sorts)");
        EDGE.fault(3, "person a right 1 left 1;person ^a right 1 left 1;");
        EDGE.fault(3, "person a right 1 left 1;box ^a duds 1;");
        EDGE.fault(3, "box a duds 1;person ^a right 1 left 1;");
        EDGE.fault(3, "box a duds 1;box ^a duds 1;");
        EDGE.fault(3, EIGHT + "box ^h duds 1;");
        EDGE.fault(3, "box a duds 1;box b duds 1;box c duds 1;box d duds 1;person ^d right 1 left 1;");
        EDGE.fine("person a right 1 left 1;person aa right 1 left 1;person b right 1 left 1;box ab duds 1;box ba duds 1;", 5);
        EDGE.fine("person abcdef right 1 left 1;person abcdeg right 1 left 1;person bbcdef right 1 left 1;box abcde duds 1;", 4);
        EDGE.fine("box a duds 1;box b duds 1;box c duds 1;box d duds 1;person e right 1 left 1;", 5);
        EDGE.is("the next TABLE gives them anew", behindOthers("box b duds 1;box a duds 1;", "person a right 1 left 1;").has(0), 1);
        EDGE.is("the next TABLE gives them anew", behindOthers(TWO, "box a duds 1;box b duds 1;").has(2), 2);
    }

    private static void toldAhead() {
        EDGE.sentence(4, "told ahead of where they are asked.");
        EDGE.fault(3, "hats ^a 1;person a right 1 left 1;");
        EDGE.fault(3, "holds ^a right seam 1;person a right 1 left 1;");
        EDGE.fine("person a right 1 left 1;hats a 1;holds a right seam 1;", 3);
        CrackerRing x = behindOthers(ONE, "bang 1;");
        EDGE.is("not those of the TABLES before", Due.table(x, "hats a 1;"), -1);
        EDGE.is("fault(0)", x.fault(0), 3);
    }

    private static void blanks() {
        EDGE.sentence(4, "Blanks (10, 32) are where one likes");
        EDGE.fine(" \n ", 0);
        EDGE.fine("person a right 1 left 1;pull(arm+1)*min(2,low)/3;bang 1;", 3);
        EDGE.fine("\n person\n\na  right\n1 left 1 \n; pull ( arm\n+ 1 ) * min\n( 2 , low ) / 3 ; ", 2);
        EDGE.fine("bang\n1\n;\n", 1);
        CrackerRing x = Due.with(TWO);
        EDGE.asks(x, "\n total \n ( number\n+ 1 ) \n", 3);
        for (int b : new int[] {0, 1, 8, 9, 11, 12, 13, 14, 31, 33, 95, 127, 128, 138, 160, 255}) {
            EDGE.fault(1, "bang^" + (char) b + "1;");
            EDGE.fault(1, "bang 1;^" + (char) b);
            EDGE.fault(1, "^" + (char) b);
        }
    }

    private static void sideBySide() {
        EDGE.sentence(4, "(words and numbers side by side need one)");
        EDGE.fault(1, "^persona right 1 left 1;");
        EDGE.fault(1, "person a right^1 left 1;");
        EDGE.fault(1, "person a right 1^left 1;");
        EDGE.fault(1, "person a^1 right 1 left 1;");
        EDGE.fault(1, "person ^5 right 1 left 1;");
        EDGE.fault(1, "person^5 right 1 left 1;");
        EDGE.fault(1, "bang^1;");
        EDGE.fault(1, "pull^1;");
        EDGE.fault(1, "pull 1^arm;");
        EDGE.fault(1, "pull arm^1;");
        EDGE.fault(1, "pull min^1(1,2);");
        EDGE.fault(1, "bang 1;^2bang 1;");
        EDGE.fine("pull(1)-(arm);bang 1;", 2);
        EDGE.wrongQuestion(1, "total^1");
        EDGE.wrongQuestion(1, "total 1^number");
        EDGE.wrongQuestion(1, "total wins^1");
        EDGE.wrongQuestion(1, "often all^1");
        EDGE.wrongQuestion(1, "often 1=1^or all");
    }

    private static void noSuchTextGoesOn() {
        EDGE.sentence(5, "FAULTS, the first along the text: 1 the first byte with which no such text goes on (words and numbers whole, at their first byte;");
        EDGE.fault(1, "^x;");
        EDGE.fault(1, "^persons a right 1 left 1;");
        EDGE.fault(1, "^perso");
        EDGE.fault(1, "^7;");
        EDGE.fault(1, "^;");
        EDGE.fault(1, "^seam;");
        EDGE.fault(1, "^first;");
        EDGE.fault(1, "person a ^rightt 1 left 1;");
        EDGE.fault(1, "person a ^left 1 right 1;");
        EDGE.fault(1, "person a right ^one left 1;");
        EDGE.fault(1, "person a right 1 ^1;");
        EDGE.fault(1, "person a right ^left 1;");
        EDGE.fault(1, "person a right 1 left^;");
        EDGE.fault(1, "box b duds^;");
        EDGE.fault(1, ONE + "hats a^;");
        EDGE.fault(1, ONE + "holds a right seam^;");
        EDGE.fault(1, "bang ^;");
        EDGE.fault(1, "bang ^low;");
        EDGE.fault(1, "bang 1 ^2;");
        EDGE.fault(1, "bang 1 ^bang 1;");
        EDGE.fault(1, "bang 1;^;");
        EDGE.fault(1, "box b ^dudsx 1;");
        EDGE.fault(1, "pull ^+1;");
        EDGE.fault(1, "pull 1^);");
        EDGE.fault(1, "pull (1^;");
        EDGE.fault(1, "pull (^);");
        EDGE.fault(1, "pull 1*^*1;");
        EDGE.fault(1, "pull min ^1,2;");
        EDGE.fault(1, "pull min^;");
        EDGE.fault(1, "pull max^+1;");
        EDGE.fault(1, "pull min(1^);");
        EDGE.fault(1, "pull max(1,2^,3);");
        EDGE.fault(1, "pull max(^,3);");
        EDGE.fault(1, "pull ^number;");
        EDGE.fault(1, "pull ^wins 1;");
        EDGE.fault(1, "pull ^armm;");
        EDGE.fault(1, "pull 1^<2;");
    }

    private static void ownWordAndSeventhLetter() {
        EDGE.sentence(5, "where a NAME is asked, an OWN WORD so, a 7th letter at itself;");
        EDGE.fault(1, "person ^right right 1 left 1;");
        EDGE.fault(1, "box ^max");
        EDGE.fault(1, "hats ^all 1;");
        EDGE.fault(1, "holds ^person right seam 1;");
        EDGE.fault(1, "person abcdef^g");
        EDGE.fault(1, "person abcdef^ghijklmnop right 1 left 1;");
        EDGE.fault(1, "person person^s right 1 left 1;");
        EDGE.fault(1, "person number^number");
        EDGE.fault(1, "box   abcdef^g duds 1;");
        EDGE.fault(1, "person abcdef right 1 left 1;hats abcdef^g 1;");
        EDGE.fault(1, "person abcdef right 1 left 1;person abcdef^g right 1 left 1;");
    }

    private static void fifthDigit() {
        EDGE.sentence(5, "where a number is asked, a 5th digit at itself;");
        EDGE.fault(1, "person a right 0000^1 left 1;");
        EDGE.fault(1, "person a right 1 left 0001^2345;");
        EDGE.fault(1, "box a duds 0000^0;");
        EDGE.fault(1, ONE + "hats a 0000^1;");
        EDGE.fault(1, ONE + "holds a left seam 0000^1;");
        EDGE.fault(1, "bang 0000^1;");
        EDGE.fault(1, "pull 1234^5;");
        EDGE.fault(1, "pull 12+1234^56789012345678901234;");
        EDGE.fine("bang 0001;pull 1234;", 2);
        EDGE.wrongQuestion(1, "total 1234^5");
        // a number where none is asked is whole
        EDGE.fault(1, "bang 1 ^12345;");
        EDGE.fault(1, "^12345");
    }

    private static void endsTooSoon() {
        EDGE.sentence(5, "at the text's length, if it ends too soon)");
        String whole = "person ab right 1 left 2 ;";
        int[] ends = {6, 7, 9, 10, 15, 16, 17, 18, 22, 23, 24, 25};
        for (int end : ends) {
            EDGE.fault(1, whole.substring(0, end) + "^");
        }
        EDGE.fault(1, ONE + "holds^");
        EDGE.fault(1, ONE + "holds a^");
        EDGE.fault(1, ONE + "holds a right^");
        EDGE.fault(1, ONE + "holds a right seam^");
        EDGE.fault(1, ONE + "holds a right seam 1^");
        EDGE.fault(1, ONE + "hats a \n\n ^");
        EDGE.fault(1, "box a^");
        EDGE.fault(1, "box a duds^");
        EDGE.fault(1, "pull^");
        EDGE.fault(1, "pull 1+^");
        EDGE.fault(1, "pull (^");
        EDGE.fault(1, "pull min^");
        EDGE.fault(1, "pull min(1,2^");
        EDGE.fault(1, "pull 1 ^");
        EDGE.wrongQuestion(1, "^");
        EDGE.wrongQuestion(1, " ^");
        EDGE.wrongQuestion(1, "total ^");
        EDGE.wrongQuestion(1, "total min^");
        EDGE.wrongQuestion(1, "total max ^");
        EDGE.wrongQuestion(1, "total min(1,^");
        EDGE.wrongQuestion(1, "often 1<^");
        EDGE.wrongQuestion(1, "often 1^");
        EDGE.wrongQuestion(1, "often [all^");
        EDGE.wrongQuestion(1, "often not^");
        EDGE.wrongQuestion(1, "often all and^");
        EDGE.wrongQuestion(1, "total wins^");
    }

    private static void numbersThatCannotBe() {
        EDGE.sentence(5, "2 a number that can't be, at it;");
        EDGE.fault(2, "person a right ^100 left 1;");
        EDGE.fault(2, "person a right 1 left   ^0100;");
        EDGE.fault(2, "person a right ^9999x");
        EDGE.fault(2, "box a duds ^101;");
        EDGE.fault(2, "bang ^101;");
        EDGE.fault(2, "bang ^9999;");
        EDGE.fault(2, ONE + "hats a ^10;");
        EDGE.fault(2, ONE + "holds a left seam ^10;");
        EDGE.fine("pull 9999;slip 9999;", 2);
    }

    private static void namesAtFault() {
        EDGE.sentence(5, "3 a NAME to be given that is there already, one that is none of what is asked, at it;");
        EDGE.fault(3, ONE + "person ^a");
        EDGE.fault(3, ONE + "box  ^a;");
        EDGE.fault(3, ONE + "box b duds 1;person ^b right 1 left 1;");
        EDGE.fault(3, ONE + "box b duds 1;box ^b duds 1;");
        EDGE.fault(3, ONE + "hats ^b 1;");
        EDGE.fault(3, ONE + "hats ^b");
        EDGE.fault(3, ONE + "holds ^aa right seam 1;");
        EDGE.fault(3, ONE + "box b duds 1;hats ^b 1;");
        EDGE.fault(3, ONE + "box b duds 1;holds ^b");
        EDGE.fault(3, "person abcdef right 1 left 1;hats ^abcde 1;");
        EDGE.fault(3, "hats ^first 1;");
    }

    private static void seventhOpen() {
        EDGE.sentence(5, "4 the 7th ( that is open at once, at it;");
        EDGE.fine("pull ((((((1))))));", 1);
        EDGE.fault(4, "pull ((((((^(1)))))));");
        EDGE.fault(4, "slip ((((((  ^(");
        EDGE.fine("pull ((((((1))))))+((((((2))))))*(3);slip ((((((4))))));", 2);
        EDGE.fine("pull min(max(min(max(min(max(1,2),1),1),1),1),1);", 1);
        EDGE.fault(4, "pull min(max(min(max(min(max(1,^(2)),1),1),1),1),1);");
        EDGE.fault(4, "pull ((((((min^(1,2)))))));");
        EDGE.fault(4, "pull ((((((1))))))-((((((max ^(1,2)))))));");
        EDGE.fault(1, "pull ((((((min ^1");
        EDGE.fault(1, "pull ((((((1))))))^);");
        EDGE.is("counted anew", behindOthers("pull ((((((1))))));", "slip ((((((1))))));").fault(0), 0);
        CrackerRing x = Due.with(ONE);
        EDGE.is("left open", Due.table(x, "pull ((((((1"), -1);
        EDGE.is("counted anew", Due.table(x, "pull ((((((1))))));"), 1);
    }

    private static void tooManyOfAKind() {
        EDGE.sentence(5, "5 one too many of a kind (a second pull, slip, too)");
        EDGE.fault(5, EIGHT + "\n ^person");
        EDGE.fault(5, EIGHT + "^person 7");
        EDGE.fault(5, "box a duds 0;box b duds 0;box c duds 0;box d duds 0; ^box a");
        EDGE.fault(5, "pull 1;bang 1;^pull");
        EDGE.fault(5, "slip 1;bang 1;  ^slip (((((((");
        EDGE.fault(1, EIGHT + "^persons");
        EDGE.fine(EIGHT + "box i duds 0;box j duds 0;box k duds 0;box l duds 0;pull 1;slip 1;", 14);
        CrackerRing x = EDGE.fine("pull 1;slip 1;", 2);
        EDGE.is("the next TABLE counts anew", Due.table(x, "pull 1;slip 1;"), 2);
        EDGE.is("also behind a FAULT", Due.table(x, "pull 1;slip 1;x"), -1);
        EDGE.is("also behind a FAULT", Due.table(x, "slip 1;pull 1;"), 2);
    }

    private static void sixtyFirst() {
        EDGE.sentence(5, "a 61st STATEMENT (whatever stands there), at its first byte.");
        String sixty = "bang 1;".repeat(60);
        EDGE.fine(sixty + " \n", 60);
        EDGE.fault(5, sixty + "^bang 1;");
        EDGE.fault(5, sixty + "  ^b");
        EDGE.fault(5, sixty + "^;");
        EDGE.fault(5, sixty + "\n^77777");
        EDGE.fault(5, sixty + "^#");
        EDGE.fault(5, sixty + "^person person");
        EDGE.fault(5, sixty + " ^\u0000");
        EDGE.fault(5, sixty + " ^\u00ff");
        EDGE.fault(1, "bang 1;".repeat(59) + "^#");
    }

    private static void firstAlongTheText() {
        EDGE.sentence(5, "FAULTS, the first along the text:");
        EDGE.fault(2, "person a right ^100 left 100;");
        EDGE.fault(2, "bang ^101;x");
        EDGE.fault(1, "^x bang 101;");
        EDGE.fault(3, ONE + "person ^a right 100 left 1;");
        EDGE.fault(3, "hats ^a5");
        EDGE.fault(1, "hats ^5;hats a 1;");
        EDGE.fault(4, "pull ((((((^(^");
        EDGE.fault(1, "pull ((((((^)(");
        EDGE.fault(5, "pull 1;^pull ((((((( ");
        EDGE.fault(4, "pull ((((((^( ;pull 1;");
        EDGE.fault(3, "box b duds 1;hats ^b 10;");
        EDGE.fault(2, "bang ^101bang 1;");
    }

    public static void main(String[] args) {
        sixtyStatements();
        people();
        holds();
        holdsTwice();
        boxes();
        hats();
        oneEach();
        bang();
        digits();
        factsOfHands();
        fromTheLeft();
        quotients();
        millions();
        lengthOfNames();
        noOwnWord();
        unlikeNames();
        toldAhead();
        blanks();
        sideBySide();
        noSuchTextGoesOn();
        ownWordAndSeventhLetter();
        fifthDigit();
        endsTooSoon();
        numbersThatCannotBe();
        namesAtFault();
        seventhOpen();
        tooManyOfAKind();
        sixtyFirst();
        firstAlongTheText();
        EDGE.end();
    }
}
