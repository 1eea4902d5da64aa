/** FAULTS of a TABLE and of a QUESTION: which, and where. */
public final class FaultTest {
    private static final Due DUE = new Due("FaultTest");

    private static void table(String text, int fault, int place) {
        CrackerRing x = new CrackerRing();
        DUE.is("table() of '" + text + "'", Due.table(x, text), -1);
        DUE.is("fault(0) of '" + text + "'", x.fault(0), fault);
        DUE.is("fault(1) of '" + text + "'", x.fault(1), place);
        DUE.is("fault(2)", x.fault(2), -1);
        DUE.is("status(1)", x.status(1), 1);
    }

    /** Told with a caret ahead of the byte at fault. */
    private static void at(int fault, String text) {
        int place = text.indexOf('^');
        table(text.substring(0, place) + text.substring(place + 1), fault, place);
    }

    private static void asked(int fault, String text) {
        int place = text.indexOf('^');
        String question = text.substring(0, place) + text.substring(place + 1);
        CrackerRing x = Due.with(Due.people(1, 2, 3, 4));
        DUE.is("ask() of '" + question + "'", Due.ask(x, question), CrackerRing.NOTHING);
        DUE.is("fault(0) of '" + question + "'", x.fault(0), fault);
        DUE.is("fault(1) of '" + question + "'", x.fault(1), place);
        DUE.is("status(1)", x.status(1), 0);
    }

    private static void fine(String text, int statements) {
        CrackerRing x = new CrackerRing();
        DUE.is("table() of '" + text + "'", Due.table(x, text), statements);
        DUE.is("fault(0)", x.fault(0), 0);
        DUE.is("fault(1)", x.fault(1), -1);
    }

    private static void words() {
        at(1, "^x;");
        at(1, "^persons a");
        at(1, "^personx a");
        at(1, "^pers");
        at(1, "^;");
        at(1, "^7");
        at(1, "^Person a right 1 left 1;");
        at(1, "person^\u0009a right 1 left 1;");
        at(1, "person^\u0000a");
        at(1, "person^\u00e9");
        at(1, "person^");
        at(1, "person  \n^");
        at(1, "person ^box");
        at(1, "person ^wins");
        at(1, "person ^5");
        at(1, "person^5");
        at(1, "person abcdef^g");
        at(1, "person abcdef^ghijk right 1");
        at(1, "person number^s right 1 left 1;");
        at(1, "person a^B right 1 left 1;");
        at(1, "person a^1 right 1 left 1;");
        at(1, "person a ^left 1 right 1;");
        at(1, "person a ^rights 1");
        at(1, "person a right^");
        at(1, "person a right ^left");
        at(1, "person a right^1 left 1;");
        at(1, "person a right 1^left 1;");
        at(1, "person a right 1 left 1^");
        at(1, "person a right 1 left 1 ^person b");
        at(1, "person a right 1 left ^-1;");
        at(1, "person a right 0001^1 left 1;");
        at(1, "person a right 9999^9 left 1;");
        at(1, "box ^duds duds 1;");
        at(1, "box a ^dud 1;");
        at(1, "bang ^x;");
        at(1, "bang^50;");
        at(1, "bang 50;^;");
        at(1, "hats ^5");
        at(1, "hats ^hats 5");
        at(1, "hats abcdef^g 5");
        at(1, Due.people(1, 1) + "holds a ^up seam 1;");
        at(1, Due.people(1, 1) + "holds a right ^right 1;");
        at(1, Due.people(1, 1) + "holds a right seam^;");
        at(1, Due.people(1, 1) + "holds a right ^box 1;");
    }

    private static void numbers() {
        at(2, "person a right ^100 left 1;");
        at(2, "person a right 99 left ^100;");
        at(2, "person a right ^0100 left 1;");
        at(2, "person a right ^9999left 1;");
        at(2, "box a duds ^101;");
        at(2, "bang ^101;");
        at(2, Due.people(1, 1) + "hats a ^10;");
        at(2, Due.people(1, 1) + "holds a left thumb ^10;");
        fine("person a right 99 left 0099;", 1);
        fine("box a duds 100;bang 100;bang 0;", 3);
        fine(Due.people(1, 1) + "hats a 9;hats a 0;holds a left thumb 9;", 4);
    }

    private static void names() {
        at(3, Due.people(1, 1) + "person ^a right 1 left 1;");
        at(3, Due.people(1, 1) + "person ^a5");
        at(3, Due.people(1, 1) + "box ^a duds 1;");
        at(3, "box x duds 1;person ^x");
        at(3, "box x duds 1;box ^x");
        at(3, "holds ^x right seam 1;");
        at(3, "hats ^x 1;");
        at(3, "box x duds 1;hats ^x 1;");
        at(3, "box x duds 1;holds ^x");
        at(3, "hats ^a 1;" + Due.people(1, 1));
        fine("person first right 1 left 1;box least duds 1;person abcdef right 1 left 2;person abcde right 1 left 1;", 4);
        fine("person a right 1 left 1;person aa right 1 left 1;hats aa 1;box az duds 0;", 4);
    }

    private static void sums() {
        at(1, "pull ^;");
        at(1, "pull 1 ^2;");
        at(1, "pull 1 ^arm;");
        at(1, "pull 1^arm;");
        at(1, "pull arm^1;");
        at(1, "pull^1;");
        at(1, "pull ^-1;");
        at(1, "pull 1+^;");
        at(1, "pull 1+^");
        at(1, "pull 1 + ^+ 1;");
        at(1, "pull (1^;");
        at(1, "pull 1^);");
        at(1, "pull (^);");
        at(1, "pull min ^1;");
        at(1, "pull min(1^);");
        at(1, "pull min(1,2^,3);");
        at(1, "pull max(1 ^2);");
        at(1, "pull ^number;");
        at(1, "pull ^hats;");
        at(1, "pull ^right;");
        at(1, "pull ^wins 1;");
        at(1, "pull ^armlength;");
        at(1, "pull 1234^5;");
        at(1, "pull 1 ^< 2;");
        at(1, "pull ^[1];");
        at(1, "slip ^;");
        at(4, "pull ((((((^(1)))))));");
        at(4, "pull min(min(min(min(min(min(1, ^(2)),1),1),1),1),1);");
        at(4, "slip ((((((1))))))+((((((max^(1,2)))))));");
        at(5, "pull 1;^pull 2;");
        at(5, "slip 1;pull 1;^slip x");
        fine("pull((((((1))))))*((((((2))))))-min(((((max(1,2))))),3);slip 9999/0;", 2);
        fine("\n pull\n1 ;\n\n", 1);
        fine("", 0);
        fine(" \n", 0);
    }

    private static void tooMany() {
        String eight = Due.people(1, 1, 1, 1, 1, 1, 1, 1, 1, 1, 1, 1, 1, 1, 1, 1);
        fine(eight, 8);
        at(5, eight + " ^person i right 1 left 1;");
        at(5, eight + " ^person a");
        at(5, eight + " ^person");
        at(1, eight + " ^personi");
        String four = "box w duds 1;box x duds 1;box y duds 1;box z duds 1;";
        fine(four, 4);
        at(5, four + "^box v duds 1;");
        String sixty = "bang 5;".repeat(60);
        fine(sixty, 60);
        fine(sixty + " \n ", 60);
        at(5, sixty + "^bang 5;");
        at(5, sixty + " ^#");
        at(5, sixty + "\n^;");
        at(5, sixty + "^7up");
        at(1, "bang 5;".repeat(59) + "bang^");
    }

    private static void questions() {
        asked(1, "^");
        asked(1, "  ^");
        asked(1, "^person");
        asked(1, "^firsts all");
        asked(1, "first^");
        asked(1, "first^1<2");
        asked(1, "first ^;");
        asked(1, "first 1^");
        asked(1, "first 1 ^2");
        asked(1, "first 1 ^and 2");
        asked(1, "first 1<^");
        asked(1, "first 1<2 ^< 3");
        asked(1, "first 1<2^;");
        asked(1, "first 1<2^or 1<2");
        asked(1, "first all ^1");
        asked(1, "first all or^");
        asked(1, "first all and ^or all");
        asked(1, "first [all^");
        asked(1, "first [^]");
        asked(1, "first all^]");
        asked(1, "first [1^]");
        asked(1, "first (^all");
        asked(1, "first not^");
        asked(1, "first not^1<2");
        asked(1, "first not ^)");
        asked(1, "often ^arm < 2");
        asked(1, "often ^low < 2");
        asked(1, "often ^ann < 2");
        asked(1, "total ^all");
        asked(1, "total ^not 1");
        asked(1, "total 1 ^< 2");
        asked(1, "total wins^");
        asked(1, "total wins^0");
        asked(1, "total wins ^-1");
        asked(1, "most 1 ^most 2");
        asked(1, "least 1234^5");
        asked(1, "least 1 ^;");
        asked(1, "total right^1");
        asked(4, "first not not not not not not ^not all");
        asked(4, "first [[[[[[^[all]]]]]]]");
        asked(4, "total wins wins wins wins wins wins ^wins 0");
        asked(4, "total wins wins wins wins wins wins ^(0)");
        asked(4, "first not [not [(wins ^wins (0)) = 0]]");
        asked(4, "first not [not [((^wins 9)) = 0]]");
        asked(4, "first not [not [min(wins max^(0, 1), 0) = 0]]");
        CrackerRing x = Due.with(Due.people(1, 2, 3, 4));
        DUE.is("six open", Due.ask(x, "often not not not not not not all"), 2);
        DUE.is("six brackets", Due.ask(x, "often [[[[[[all]]]]]]and[[[[[[all]]]]]]"), 2);
        DUE.is("closed again", Due.ask(x, "often not [not [(wins 9) = 0]] and not not not not not not ((((((1))))))=1"),
            CrackerRing.NOTHING);
        DUE.is("fault(0)", x.fault(0), 4);
        DUE.is("fault(1)", x.fault(1), 59);
        DUE.is("wins ends", Due.ask(x, "total wins wins wins wins wins wins 9 + wins wins wins wins wins wins 9"),
            2 * Due.ask(x, "total wins 0"));
        DUE.is("not ends", Due.ask(x, "often not not not not not not all and not not not not not not all"), 2);
        DUE.is("no fault", x.fault(0), 0);
        DUE.is("no place", x.fault(1), -1);
    }

    private static void ownWords() {
        for (String own : ("person right left holds seam paper thumb box duds hats pull slip bang arm low other number wins"
            + " or and not all min max").split(" ")) {
            at(1, "person ^" + own + " right 1 left 1;");
            at(1, "box ^" + own + " duds 1;");
            at(1, "hats ^" + own + " 1;");
            at(1, "holds ^" + own);
        }
        for (String other : "first last often total most least".split(" ")) {
            fine("person " + other + " right 1 left 1;hats " + other + " 2;", 2);
        }
    }

    /** What one text left open, or left unfinished, is nothing to the next one. */
    private static void oneBehindAnother() {
        CrackerRing x = Due.with(Due.people(1, 2, 3, 4));
        for (int i = 0; i < 10; i++) {
            DUE.is("left open", Due.ask(x, "total ((((((1"), CrackerRing.NOTHING);
            DUE.is("left open", x.fault(1), 13);
            DUE.is("left open", Due.table(x, "pull (((((("), -1);
            DUE.is("left open", x.fault(1), 11);
            DUE.is("a word at the end", Due.ask(x, "total hats"), 0);
            DUE.is("a number ahead", Due.ask(x, "1"), CrackerRing.NOTHING);
            DUE.is("a number ahead", x.fault(1), 0);
            DUE.is("six again", Due.ask(x, "total ((((((1))))))"), 2);
        }
        DUE.is("six again", Due.table(x, "pull ((((((1))))));"), 1);
    }

    private static void longTexts() {
        for (String sign : new String[] {";", "(", "#"}) {
            table(sign.repeat(1600), 1, 0);
        }
        table("pull " + "-".repeat(1595), 1, 5);
        table(" ".repeat(1600 - 4) + "bang", 1, 1600);
        table("a".repeat(1600), 1, 0);
        table("pull " + "1".repeat(1595), 1, 9);
        fine(" ".repeat(1600), 0);
        fine("pull " + "1+".repeat(796) + "1 ;", 1);
        CrackerRing x = Due.with(Due.people(1, 2, 3, 4));
        DUE.is("many are added", Due.ask(x, "most " + "1+".repeat(797) + "1"), 798);
        DUE.is("many are taken away", Due.ask(x, "least " + "1-".repeat(796) + "1"), -795);
        DUE.is("many at once", Due.ask(x, "often " + "all and ".repeat(199) + "1"), CrackerRing.NOTHING);
        DUE.is("the text's length", x.fault(1), 1599);
        DUE.is("many at once", Due.ask(x, "often " + "all and ".repeat(198) + "all"), 2);
        DUE.is("many at once", Due.ask(x, "often " + "1>1 or ".repeat(227) + "1=1"), 2);
    }

    public static void main(String[] args) {
        words();
        ownWords();
        oneBehindAnother();
        longTexts();
        numbers();
        names();
        sums();
        tooMany();
        questions();
        DUE.end();
    }
}
