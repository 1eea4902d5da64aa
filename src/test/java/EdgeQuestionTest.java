/** The edges that Terms IV name, of QUESTIONS and IMAGES: each sentence a test of its own. */
public final class EdgeQuestionTest {
    private static final Edge EDGE = new Edge("EdgeQuestionTest");
    private static final String THREE = "person ann right 6 left 4;person bob right 3 left 2;person cid right 9 left 8;";
    private static final String EIGHT = Due.people(1, 1, 1, 1, 1, 1, 1, 1, 1, 1, 1, 1, 1, 1, 1, 1);

    private static void firstLastOften() {
        EDGE.sentence(29, "first TEST, last TEST (the first, the last one for whom it holds), often TEST (for how many)");
        CrackerRing x = Due.with(EIGHT + "hats a 1;hats h 1;");
        EDGE.asks(x, "first hats=1", 0);
        EDGE.asks(x, "last hats=1", 7);
        EDGE.asks(x, "often hats=1", 2);
        EDGE.asks(x, "first hats=0", 1);
        EDGE.asks(x, "last hats=0", 6);
        EDGE.asks(x, "often hats=0", 6);
        EDGE.asks(x, "first hats=2", -1);
        EDGE.asks(x, "last hats=2", -1);
        EDGE.asks(x, "often hats=2", 0);
        EDGE.asks(x, "first all", 0);
        EDGE.asks(x, "last all", 7);
        EDGE.asks(x, "often all", 8);
        EDGE.asks(new CrackerRing(), "first all", -1);
        EDGE.asks(new CrackerRing(), "last all", -1);
        EDGE.asks(new CrackerRing(), "often all", 0);
        EDGE.asks(Due.with(Due.people(1, 1)), "last all", 0);
    }

    private static void totalMostLeast() {
        EDGE.sentence(29, "total SUM (of all together, not held), most SUM, least SUM (the greatest, the least of all; 0 without PEOPLE).");
        CrackerRing x = Due.with(EIGHT);
        EDGE.asks(x, "total 9999*9999", 8000000);
        EDGE.asks(x, "total 0-9999*9999", -8000000);
        EDGE.asks(x, "total 9999*100+99", 8 * 999999);
        EDGE.asks(x, "most 9999*9999", 1000000);
        EDGE.asks(x, "least 0-9999*9999", -1000000);
        EDGE.asks(x, "most 0-number-1", -1);
        EDGE.asks(x, "least 0-number-1", -8);
        EDGE.asks(x, "most number+1", 8);
        EDGE.asks(x, "least number+1", 1);
        EDGE.asks(x, "total 0-1", -8);
        CrackerRing nobody = new CrackerRing();
        EDGE.asks(nobody, "total 7", 0);
        EDGE.asks(nobody, "most 7", 0);
        EDGE.asks(nobody, "most 0-7", 0);
        EDGE.asks(nobody, "least 7", 0);
        EDGE.asks(nobody, "least 0-7", 0);
        CrackerRing one = Due.with(Due.people(5, 6));
        EDGE.asks(one, "total 0-right", -5);
        EDGE.asks(one, "most 0-left", -6);
        EDGE.asks(one, "least right+left", 11);
    }

    private static void signs() {
        EDGE.sentence(29, "SUM SIGN SUM, SIGN < or > or = .");
        CrackerRing x = Due.with(EIGHT);
        EDGE.asks(x, "often number<3", 3);
        EDGE.asks(x, "often number>3", 4);
        EDGE.asks(x, "often number=3", 1);
        EDGE.asks(x, "often 1<1", 0);
        EDGE.asks(x, "often 1>1", 0);
        EDGE.asks(x, "often 1=1", 8);
        EDGE.asks(x, "often 0-1<0", 8);
        EDGE.asks(x, "often 0-1=1", 0);
        EDGE.wrongQuestion(1, "often 1<^=1");
        EDGE.wrongQuestion(1, "often 1^!1");
        EDGE.wrongQuestion(1, "often 1<2^<3");
    }

    private static void orAnd() {
        EDGE.sentence(29, "TEST: BOTH { or BOTH }. BOTH: FACT { and FACT }. FACT: not FACT; [ TEST ] ; all;");
        CrackerRing x = Due.with(EIGHT);
        EDGE.asks(x, "often all or all and 1=2", 8);
        EDGE.asks(x, "often [all or all] and 1=2", 0);
        EDGE.asks(x, "often 1=2 and 1=2 or all", 8);
        EDGE.asks(x, "often not 1=2 and 1=2", 0);
        EDGE.asks(x, "often not [1=2 and 1=2]", 8);
        EDGE.asks(x, "often not 1=1 or 1=1", 8);
        EDGE.asks(x, "often not not all", 8);
        EDGE.asks(x, "often not all", 0);
        EDGE.asks(x, "often [all]", 8);
        EDGE.asks(x, "often number=0 or number=2 or number=7", 3);
        EDGE.asks(x, "often number>1 and number<5 and not number=3", 2);
        EDGE.wrongQuestion(1, "often [^]");
        EDGE.wrongQuestion(1, "often all ^all");
        EDGE.wrongQuestion(1, "often ^or all");
        EDGE.wrongQuestion(1, "often (^all)=1");
    }

    private static void facts() {
        EDGE.sentence(29, "(The number of his seat, how strong his right, his left arm is, his HATS, how many of his HANDS thumb it;");
        CrackerRing x = Due.with(THREE + "hats cid 9;holds ann left thumb 1;holds cid right thumb 1;holds cid left thumb 1;");
        EDGE.asks(x, "least number", 0);
        EDGE.asks(x, "most number", 2);
        EDGE.asks(x, "most right", 9);
        EDGE.asks(x, "most left", 8);
        EDGE.asks(x, "most hats", 9);
        EDGE.asks(x, "least hats", 0);
        EDGE.asks(x, "first thumb=0", 1);
        EDGE.asks(x, "first thumb=1", 0);
        EDGE.asks(x, "first thumb=2", 2);
        x.hold(0, 0, 2, 1);
        x.hold(0, 1, 1, 1);
        EDGE.asks(x, "first thumb=1", 0);
        x.change(0, 2);
        EDGE.asks(x, "first thumb=2", 0);
        EDGE.asks(x, "first right=6", 2);
        EDGE.asks(x, "first hats=9", 0);
        EDGE.sentence(29, "(PEOPLE by their seats.)");
        EDGE.asks(x, "last left=8", 0);
        EDGE.asks(x, "total number*right", 3 + 2 * 6);
    }

    private static void wins() {
        EDGE.sentence(29, "wins: of 10000, how likely he has the CRACKER of that number, 0 of ones that he does not pull, of numbers that there are not.)");
        CrackerRing x = Due.with(THREE);
        // 6 to 2, 3 to 8, 9 to 4
        EDGE.tells(x, 0, 6, 2, 0, 0, 7500, 2500, 0);
        EDGE.tells(x, 1, 3, 8, 0, 0, 2700, 7300, 0);
        EDGE.tells(x, 2, 9, 4, 0, 0, 6900, 3100, 0);
        EDGE.asks(x, "first wins 0=7500", 0);
        EDGE.asks(x, "first wins 0=2500", 1);
        EDGE.asks(x, "first wins 0=0", 2);
        EDGE.asks(x, "first wins 1=0", 0);
        EDGE.asks(x, "first wins 2=6900", 2);
        EDGE.asks(x, "first wins 2=3100", 0);
        EDGE.asks(x, "first wins 2=0", 1);
        EDGE.asks(x, "often wins 3=0", 3);
        EDGE.asks(x, "often wins 9999=0", 3);
        EDGE.asks(x, "often wins(0-1)=0", 3);
        EDGE.asks(x, "often wins(9999*9999)=0", 3);
        EDGE.asks(x, "often wins(0-9999*9999)=0", 3);
        x = Due.with(Due.people(6, 4, 3, 2));
        EDGE.asks(x, "first wins 1=5800", 0);
        EDGE.asks(x, "first wins 1=4200", 1);
        EDGE.asks(x, "total wins 2", 0);
        CrackerRing one = Due.with(Due.people(6, 4));
        EDGE.asks(one, "total wins 0", 0);
        EDGE.asks(one, "total wins 1", 0);
        EDGE.asks(one, "total wins(0-1)", 0);
        Due.table(x, Due.people(6, 4));
        EDGE.asks(x, "total wins 0", 0);
        EDGE.asks(x, "total wins(0-1)", 0);
        x = Due.with(EIGHT);
        EDGE.asks(x, "first wins 7>0", 0);
        EDGE.asks(x, "last wins 7>0", 7);
        EDGE.asks(x, "often wins 7=0", 6);
        EDGE.asks(x, "total wins 8", 0);
    }

    private static void winsOfAPart() {
        EDGE.sentence(29, "wins PART;");
        CrackerRing x = Due.with(THREE);
        EDGE.asks(x, "total wins 0+1", 10003);
        EDGE.asks(x, "total wins(0+1)", 10000);
        EDGE.asks(x, "total wins wins 3", 10000);
        EDGE.asks(x, "total wins min(1,2)*2", 20000);
        EDGE.asks(x, "total wins hats", 10000);
        EDGE.wrongQuestion(1, "total wins ^-1");
        EDGE.wrongQuestion(1, "total wins ^all");
    }

    private static void unknownWords() {
        EDGE.sentence(29, "Its FAULTS: 1 as in I (an unknown word at its first byte; what stands behind it, too);");
        EDGE.wrongQuestion(1, "^ever all");
        EDGE.wrongQuestion(1, "^firs all");
        EDGE.wrongQuestion(1, "^firsts all");
        EDGE.wrongQuestion(1, "^wins 0");
        EDGE.wrongQuestion(1, "^7");
        EDGE.wrongQuestion(1, "total ^ann");
        EDGE.wrongQuestion(1, "total 1+^annabella");
        EDGE.wrongQuestion(1, "total ^arm");
        EDGE.wrongQuestion(1, "total ^low");
        EDGE.wrongQuestion(1, "total ^other");
        EDGE.wrongQuestion(1, "total ^seam");
        EDGE.wrongQuestion(1, "total ^all");
        EDGE.wrongQuestion(1, "total ^not 1");
        EDGE.wrongQuestion(1, "total ^[1]");
        EDGE.wrongQuestion(1, "often all ^xor all");
        EDGE.wrongQuestion(1, "total ^total 1");
        // what stands behind it
        EDGE.wrongQuestion(1, "total 1 ^x");
        EDGE.wrongQuestion(1, "total 1^;");
        EDGE.wrongQuestion(1, "total 1 ^1");
        EDGE.wrongQuestion(1, "total 1^)");
        EDGE.wrongQuestion(1, "total 1 ^<2");
        EDGE.wrongQuestion(1, "often all^]");
        EDGE.wrongQuestion(1, "often all ^first all");
        EDGE.wrongQuestion(1, "first all \n^\u0000");
        EDGE.asks(Due.with(EIGHT), "often all \n ", 8);
    }

    private static void seventhOpen() {
        EDGE.sentence(29, "4 the 7th of ( [ not wins that is open at once (not until its FACT, wins until its PART ends), at it.");
        CrackerRing x = Due.with(EIGHT);
        EDGE.asks(x, "total ((((((1))))))", 8);
        EDGE.wrongQuestion(4, "total ((((((^(1)))))))");
        EDGE.asks(x, "often [[[[[[all]]]]]]", 8);
        EDGE.wrongQuestion(4, "often [[[[[[^[all]]]]]]]");
        EDGE.asks(x, "often not not not not not not all", 8);
        EDGE.wrongQuestion(4, "often not not not not not not  ^not all");
        // two have the CRACKER 0 by 5000 each; there is no CRACKER 5000
        EDGE.asks(x, "total wins wins wins wins wins wins 0", 0);
        EDGE.asks(x, "total wins wins wins wins wins wins 9", 10000);
        EDGE.wrongQuestion(4, "total wins wins wins wins wins wins ^wins 0");
        EDGE.wrongQuestion(4, "total min(max(min(max(min(max(min^(^");
    }

    private static void openTogether() {
        EDGE.sentence(29, "4 the 7th of ( [ not wins that is open at once");
        EDGE.wrongQuestion(4, "often not [not [wins(^(0))=0]]");
        EDGE.wrongQuestion(4, "often not [not [wins(^wins 0)=0]]");
        EDGE.wrongQuestion(4, "often not [not [((min^(1,2)))=0]]");
        EDGE.wrongQuestion(4, "often not [not [((^wins 0))=0]]");
        EDGE.wrongQuestion(4, "often not [not [not [^not all]]]");
        EDGE.wrongQuestion(4, "often not [not [not [^[all]]]]");
        EDGE.wrongQuestion(4, "often not not not not not not ^(1)=1");
        EDGE.wrongQuestion(4, "total wins wins wins wins wins wins ^(0)");
        CrackerRing x = Due.with(EIGHT);
        EDGE.asks(x, "often not [not [wins(0)=5000]]", 2);
        EDGE.asks(x, "often not not not not not not 1=1", 8);
    }

    private static void closedAgain() {
        EDGE.sentence(29, "(not until its FACT, wins until its PART ends)");
        CrackerRing x = Due.with(EIGHT);
        EDGE.asks(x, "often not not not not not not all and not not not not not not all", 8);
        EDGE.asks(x, "often not not not not not not all or [[[[[[all]]]]]]", 8);
        EDGE.asks(x, "often not 1=2 and not 1=2 and not 1=2 and not 1=2 and not 1=2 and not 1=2 and not 1=2", 8);
        EDGE.asks(x, "total wins 9+wins 9*wins 9-wins 9+wins 9+wins 9+wins 9", 0);
        EDGE.asks(x, "total wins wins wins wins wins wins 9+(((((wins 9*0+0)-0))))", 10000);
        EDGE.asks(x, "total (1)+(1)+(1)+(1)+(1)+(1)+((((((1))))))", 56);
        EDGE.asks(x, "often [all] and [all] and [all] and [all] and [all] and [all] and [[[[[[all]]]]]]", 8);
        EDGE.asks(x, "total min(1,2)+max((((((1))))),2)", 24);
        for (String left : new String[] {"total ((((((1", "often [[[[[[all", "often not not not not not not", "total wins wins wins wins wins wins"}) {
            EDGE.is("left open", Due.ask(x, left), CrackerRing.NOTHING);
            EDGE.asks(x, "total ((((((1))))))", 8);
        }
        for (String tooMany : new String[] {"total (((((((1", "often [[[[[[[all", "total wins wins wins wins wins wins wins 1"}) {
            EDGE.is("too many open", Due.ask(x, tooMany), CrackerRing.NOTHING);
            EDGE.is("too many open again", Due.ask(x, "total (((((((1)))))))"), CrackerRing.NOTHING);
            EDGE.is("fault(1)", x.fault(1), 12);
        }
        // not is open while its FACT, a sign with two SUMS, is read
        EDGE.wrongQuestion(4, "often not not not not not 1=(2) and not not not not not (1)=(^(2))");
        EDGE.wrongQuestion(4, "often not not not not not not 1=^(1)");
        EDGE.asks(x, "often not not not not not 1=1 and (1)=((((((1))))))", 0);
    }

    private static void fifthDigit() {
        EDGE.sentence(29, "SUM as in I, but PART: N; number; right; left; hats; thumb; wins PART; ( SUM ) ; min ( SUM , SUM ) ; max ( SUM , SUM ) .");
        CrackerRing x = Due.with(EIGHT);
        EDGE.asks(x, "most 9999", 9999);
        EDGE.asks(x, "most 0009", 9);
        EDGE.asks(x, "most 0", 0);
        EDGE.wrongQuestion(1, "most 0000^9");
        EDGE.wrongQuestion(1, "most wins 1234^5");
        EDGE.wrongQuestion(1, "often 1=1000^0");
        EDGE.asks(x, "most min(2,1)", 1);
        EDGE.asks(x, "most max(2,1)", 2);
        EDGE.asks(x, "most min(1,1)+max(0-1,0-2)", 0);
        EDGE.asks(x, "most 7/0", 0);
        EDGE.asks(x, "least (0-7)/2", -4);
        EDGE.wrongQuestion(1, "most min ^1,2)");
        EDGE.wrongQuestion(1, "most min(1^)");
        EDGE.wrongQuestion(1, "most max(1,2^,3)");
    }

    private static void tapeGoes() {
        EDGE.sentence(29, "The tape (it goes, refused or not) is a QUESTION: its answer; NONE of first, last, when its TEST holds for none; NOTHING with a FAULT.");
        CrackerRing x = Due.with(EIGHT);
        EDGE.asks(x, "first not all", CrackerRing.NONE);
        EDGE.is("end(1)", x.end(1), false);
        EDGE.asks(x, "last not all", CrackerRing.NONE);
        EDGE.is("ask() of an empty tape", x.ask(), CrackerRing.NOTHING);
        EDGE.is("fault(0)", x.fault(0), 1);
        EDGE.is("fault(1)", x.fault(1), 0);
        EDGE.is("ask() of 'total x'", Due.ask(x, "total x"), CrackerRing.NOTHING);
        EDGE.is("end(1)", x.end(1), false);
        EDGE.is("status(1)", x.status(1), 0);
        EDGE.asks(x, "often not all", 0);
        EDGE.is("NOTHING", CrackerRing.NOTHING, -1000000000000000L);
    }

    private static void imageBytes() {
        EDGE.sentence(30, "AN IMAGE: DINNERS, BANGS, those under the table (two bytes each, the higher first); for each of the PEOPLE, as they sit, which one he is, his HATS, of the right, then of the left HAND GRIP and how low; last a byte: all ahead from 227 on, c = (3 c + it) mod 251.");
        CrackerRing x = new CrackerRing();
        EDGE.is("image() of nobody", x.image(), 7);
        // 227 six times 3 c mod 251: 179, 35, 105, 64, 192, 74
        EDGE.is("octet(6)", x.octet(6), 74);
        x = Due.with(Due.people(1, 1, 1, 1) + "slip 100;hats b 3;holds b right thumb 9;holds b left paper 0;");
        Due.restore(x, Due.image(0, 254, 0, 253, 0, 255, 0, 0, 0, 5, 0, 5, 1, 3, 2, 9, 1, 0));
        x.dine(1);
        image(x, 0, 255, 0, 255, 1, 1, 0, 0, 0, 5, 0, 5, 1, 3, 2, 9, 1, 0);
        x.dine(1);
        image(x, 1, 0, 1, 1, 1, 3, 0, 0, 0, 5, 0, 5, 1, 3, 2, 9, 1, 0);
        x.change(0, 1);
        image(x, 1, 0, 1, 1, 1, 3, 1, 3, 2, 9, 1, 0, 0, 0, 0, 5, 0, 5);
        int[] most = {39, 15, 39, 15, 39, 15, 1, 99, 2, 9, 2, 9, 0, 99, 2, 9, 2, 9};
        EDGE.is("restore() of the greatest", Due.restore(x, Due.image(most)), true);
        image(x, most);
        EDGE.is("image() of one", Due.with(Due.people(1, 1)).image(), 13);
        EDGE.is("image() of eight", Due.with(EIGHT).image(), 55);
    }

    private static void image(CrackerRing x, int... ahead) {
        int[] due = Due.image(ahead);
        EDGE.is("image()", x.image(), due.length);
        for (int k = 0; k < due.length; k++) {
            EDGE.is("octet(" + k + ")", x.octet(k), due[k]);
        }
        EDGE.is("octet() behind it", x.octet(due.length), -1);
    }

    public static void main(String[] args) {
        firstLastOften();
        totalMostLeast();
        signs();
        orAnd();
        facts();
        wins();
        winsOfAPart();
        unknownWords();
        seventhOpen();
        openTogether();
        closedAgain();
        fifthDigit();
        tapeGoes();
        imageBytes();
        EDGE.end();
    }
}
