/** The second part of the terms: texts, their faults, and what a day is worth. */
final class EdgesOfTerms2 {
    private static final String[] UNITS = {"angle", "sun", "wind", "current", "month", "day", "turned"};
    private static final String[] OTHERS = {"worth", "when", "or", "and", "not"};
    /** What the units are on the day of value(). */
    private static final int[] FACTS = {5, 3, -4, 9, 1, 45, 1};

    private EdgesOfTerms2() {
    }

    static void all(Edges e) {
        e.terms(2);
        e.edge("WANTS are TEXTS (empty at first)", EdgesOfTerms2::emptyAtFirst);
        grammar(e);
        tokens(e);
        faults(e);
        worths(e);
    }

    private static void grammar(Edges e) {
        e.edge("= {worth E [when B] ;}.", EdgesOfTerms2::lines);
        e.edge("B = A {or A}.", EdgesOfTerms2::ors);
        e.edge("A = C {and C}.", EdgesOfTerms2::ands);
        e.edge("C = E (< | = | >) E | not C | ( B ).", EdgesOfTerms2::conditions);
        e.edge("E = T {(+ | -) T}.", EdgesOfTerms2::sums);
        e.edge("T = U {* U | / NUMBER}.", EdgesOfTerms2::products);
        e.edge("U = NUMBER | angle | sun | wind | current | month | day | turned.", EdgesOfTerms2::units);
    }

    private static void tokens(Edges e) {
        e.edge("TOKENS: letters as many as stand together are KEYWORDS (those told here) or none;",
                EdgesOfTerms2::letters);
        e.edge("digits as many as stand together NUMBERS of 1 to 4 digits or none;", EdgesOfTerms2::digits);
        e.edge("; + - * / ( ) < = > .", EdgesOfTerms2::signs);
        e.edge("Blanks (32, 10) between.", EdgesOfTerms2::blanks);
        e.edge("Ints, which wrap;", EdgesOfTerms2::wraps);
        e.edge("/ goes towards 0.", EdgesOfTerms2::towards0);
    }

    private static void faults(Edges e) {
        e.edge("FAULTS, the first by its place,", EdgesOfTerms2::firstByPlace);
        e.edge("at one place the least:", EdgesOfTerms2::leastAtOnePlace);
        e.edge("1 what can't stand there", EdgesOfTerms2::cannotStand);
        e.edge("(the end: the text's length).", EdgesOfTerms2::theEnd);
        e.edge("2 (at the NUMBER) a part by 0.", EdgesOfTerms2::partBy0);
        e.edge("3 (at its KEYWORD) the 17th line;", EdgesOfTerms2::line17);
        e.edge("(at it) the 9th ( or not that is open.", EdgesOfTerms2::open9);
    }

    private static void worths(Edges e) {
        e.edge("WORTH of a DAY to an owner with an ANGLE of the island, with a turn (-1, 0, 1) at noon:",
                EdgesOfTerms2::worthOfADay);
        e.edge("E of all lines of his WANT whose B is so (or that have none),", EdgesOfTerms2::linesThatAreSo);
        e.edge("added exactly,", EdgesOfTerms2::addedExactly);
        e.edge("held to -9999 .. 9999:", EdgesOfTerms2::held);
        e.edge("angle: of his PLOT;", EdgesOfTerms2::angleOfPlot);
        e.edge("sun, wind, current: there in that MONTH;", EdgesOfTerms2::skyThere);
        e.edge("month, day;", EdgesOfTerms2::monthAndDay);
        e.edge("turned: 1 with a turn, else 0.", EdgesOfTerms2::turnedOrNot);
        e.edge("Without a WANT 0.", EdgesOfTerms2::withoutAWant);
    }

    /** A text that has a fault (or none: 0, -1). */
    private static void fault(Check c, String text, int fault, int place) {
        TurnedIsland x = new TurnedIsland();
        int lines = Check.tell(x, 2, text);
        c.due("fault(0) of " + text, x.fault(0), fault);
        c.due("fault(1) of " + text, x.fault(1), place);
        c.due("text(2) is NONE for " + text, lines == -1, fault != 0);
        c.due("look(12) behind " + text, x.look(12), fault == 0 ? lines : 0);
    }

    private static void reads(Check c, String text) {
        fault(c, text, 0, -1);
    }

    /** On day 45 with the island at 7, turned: the plot stands at 5. */
    private static void value(Check c, String text, int want) {
        TurnedIsland x = new TurnedIsland();
        for (int what = 0; what < 3; what++) {
            x.sky(what, 1, 5, FACTS[1 + what]);
        }
        c.yes("reads " + text, Check.tell(x, 1, text) >= 0);
        x.plot(10, 1, 1, 0);
        c.due("worth by " + text, x.worth(0, 45, 7, 1), want);
    }

    private static void emptyAtFirst(Check c) {
        TurnedIsland x = new TurnedIsland();
        for (int k = 0; k < 4; k++) {
            c.due("lines of want " + k, x.look(10 + k), 0);
            x.plot(0, 1, k, 0);
            c.due("worth by want " + k, x.worth(k, 0, 0, 0), 0);
        }
    }

    private static void lines(Check c) {
        TurnedIsland x = new TurnedIsland();
        c.due("no line", Check.tell(x, 0, ""), 0);
        c.due("one line", Check.tell(x, 0, "worth 1;"), 1);
        c.due("one line with when", Check.tell(x, 0, "worth 1 when 1=1;"), 1);
        c.due("two lines", Check.tell(x, 0, "worth 1;worth 2 when 1=1;"), 2);
        c.due("a text of no line again", Check.tell(x, 0, "  \n "), 0);
        fault(c, ";", 1, 0);
        fault(c, "1;", 1, 0);
        fault(c, "when 1=1;", 1, 0);
        fault(c, "worth;", 1, 5);
        fault(c, "worth 1", 1, 7);
        fault(c, "worth 1 worth 2;", 1, 8);
        fault(c, "worth 1;;", 1, 8);
        fault(c, "worth 1 when;", 1, 12);
        fault(c, "worth 1 when 1=1", 1, 16);
        fault(c, "worth 1 when 1=1 when 1=1;", 1, 17);
        fault(c, "worth when 1=1;", 1, 6);
    }

    private static void ors(Check c) {
        value(c, "worth 1 when 1=2;", 0);
        value(c, "worth 1 when 1=2 or 1=1;", 1);
        value(c, "worth 1 when 1=1 or 1=2;", 1);
        value(c, "worth 1 when 1=2 or 1=2;", 0);
        value(c, "worth 1 when 1=2 or 1=2 or 1=1;", 1);
        value(c, "worth 1 when 1=1 or 1=2 or 1=2;", 1);
        value(c, "worth 1 when 1=1 or 1=1 and 1=2;", 1);
        value(c, "worth 1 when 1=2 and 1=1 or 1=1;", 1);
        fault(c, "worth 1 when or 1=1;", 1, 13);
        fault(c, "worth 1 when 1=1 or;", 1, 19);
        fault(c, "worth 1 when 1=1 or or 1=1;", 1, 20);
        fault(c, "worth 1 or 1=1;", 1, 8);
    }

    private static void ands(Check c) {
        value(c, "worth 1 when 1=1 and 1=1;", 1);
        value(c, "worth 1 when 1=1 and 1=2;", 0);
        value(c, "worth 1 when 1=2 and 1=1;", 0);
        value(c, "worth 1 when 1=1 and 1=1 and 1=1;", 1);
        value(c, "worth 1 when 1=1 and 1=1 and 1=2;", 0);
        value(c, "worth 1 when 1=2 or 1=1 and 1=1;", 1);
        value(c, "worth 1 when 1<2 and 1=1;", 1);
        value(c, "worth 1 when 1=1 and 2>1;", 1);
        value(c, "worth 1 when 1<2 and 2>1;", 1);
        value(c, "worth 1 when 2<1 and 2>1;", 0);
        value(c, "worth 1 when 1=2 or 1=1 and 1=2;", 0);
        fault(c, "worth 1 when and 1=1;", 1, 13);
        fault(c, "worth 1 when 1=1 and;", 1, 20);
        fault(c, "worth 1 when 1=1 and or 1=1;", 1, 21);
        fault(c, "worth 1 when 1=1 1=1;", 1, 17);
    }

    private static void conditions(Check c) {
        value(c, "worth 1 when 1<2;worth 2 when 2<2;worth 4 when 3<2;", 1);
        value(c, "worth 1 when 1=2;worth 2 when 2=2;worth 4 when 3=2;", 2);
        value(c, "worth 1 when 1>2;worth 2 when 2>2;worth 4 when 3>2;", 4);
        value(c, "worth 1 when not 1=1;", 0);
        value(c, "worth 1 when not 1=2;", 1);
        value(c, "worth 1 when not 1<2;", 0);
        value(c, "worth 1 when not 2<1;", 1);
        value(c, "worth 1 when not 2>1;", 0);
        value(c, "worth 1 when not 1>2;", 1);
        value(c, "worth 1 when not not 1=1;", 1);
        value(c, "worth 1 when not 1=1 or 1=1;", 1);
        value(c, "worth 1 when not 1=2 and 1=2;", 0);
        value(c, "worth 1 when (1=1);", 1);
        value(c, "worth 1 when ((1=2) or (1=1));", 1);
        value(c, "worth 1 when 1=2 and (1=1 or 1=1);", 0);
        value(c, "worth 1 when not (1=1 or 1=1);", 0);
        fault(c, "worth 1 when 1;", 1, 14);
        fault(c, "worth 1 when 1=;", 1, 15);
        fault(c, "worth 1 when =1;", 1, 13);
        fault(c, "worth 1 when 1<=2;", 1, 15);
        fault(c, "worth 1 when 1=1=1;", 1, 16);
        fault(c, "worth 1 when not;", 1, 16);
        fault(c, "worth 1 when not 1;", 1, 18);
        fault(c, "worth 1 when ();", 1, 14);
        fault(c, "worth 1 when (1=1;", 1, 17);
        fault(c, "worth 1 when 1=1);", 1, 16);
        fault(c, "worth 1 when (1)=1;", 1, 15);
        fault(c, "worth 1 when 1=(1);", 1, 15);
        fault(c, "worth 1 when 1=not 1=1;", 1, 15);
    }

    private static void sums(Check c) {
        value(c, "worth 7;", 7);
        value(c, "worth 7+2;", 9);
        value(c, "worth 7-2;", 5);
        value(c, "worth 2-7;", -5);
        value(c, "worth 10-2-3;", 5);
        value(c, "worth 10-2+3;", 11);
        value(c, "worth 10-2*3;", 4);
        value(c, "worth 10-6/2;", 7);
        value(c, "worth 2*3+4*5;", 26);
        value(c, "worth 1 when 2+3=7-2;", 1);
        fault(c, "worth -1;", 1, 6);
        fault(c, "worth +1;", 1, 6);
        fault(c, "worth 1+;", 1, 8);
        fault(c, "worth 1-;", 1, 8);
        fault(c, "worth 1--1;", 1, 8);
        fault(c, "worth 1+(2);", 1, 8);
        fault(c, "worth 1 2;", 1, 8);
    }

    private static void products(Check c) {
        value(c, "worth 3*4;", 12);
        value(c, "worth 2*3*4;", 24);
        value(c, "worth 12/4;", 3);
        value(c, "worth 12/1;", 12);
        value(c, "worth 24/4/3;", 2);
        value(c, "worth 7/2*2;", 6);
        value(c, "worth 2*7/2;", 7);
        value(c, "worth sun*wind;", -12);
        value(c, "worth day/0009;", 5);
        fault(c, "worth *1;", 1, 6);
        fault(c, "worth /1;", 1, 6);
        fault(c, "worth 1*;", 1, 8);
        fault(c, "worth 1/;", 1, 8);
        fault(c, "worth 1*/2;", 1, 8);
        fault(c, "worth 1/*2;", 1, 8);
        fault(c, "worth 1/-2;", 1, 8);
        for (String unit : UNITS) {
            fault(c, "worth 1/" + unit + ";", 1, 8);
        }
    }

    private static void units(Check c) {
        for (int u = 0; u < UNITS.length; u++) {
            value(c, "worth " + UNITS[u] + ";", FACTS[u]);
            value(c, "worth 2*" + UNITS[u] + ";", 2 * FACTS[u]);
        }
        value(c, "worth 0;", 0);
        value(c, "worth 9999;", 9999);
        for (String word : OTHERS) {
            fault(c, "worth " + word + ";", 1, 6);
        }
        for (char sign : ";+-*/()<=>".toCharArray()) {
            fault(c, "worth " + sign, 1, 6);
        }
    }

    private static void letters(Check c) {
        for (String unit : UNITS) {
            fault(c, "worth " + unit.substring(0, unit.length() - 1) + ";", 1, 6);
            fault(c, "worth " + unit.substring(1) + ";", 1, 6);
            fault(c, "worth " + unit.toUpperCase() + ";", 1, 6);
            for (char letter : "azAZ".toCharArray()) {
                fault(c, "worth " + unit + letter + ";", 1, 6);
                fault(c, "worth " + letter + unit + ";", 1, 6);
            }
        }
        fault(c, "worthsun;", 1, 0);
        fault(c, "worth sunwind;", 1, 6);
        fault(c, "worth sun wind;", 1, 10);
        fault(c, "worth 1 whenever 1=1;", 1, 8);
        fault(c, "worth 1 when 1=1 orand 1=1;", 1, 17);
        fault(c, "w", 1, 0);
        fault(c, "w".repeat(400), 1, 0);
        // Digits and signs end a word; no letters are @, [, ` and {.
        reads(c, "worth1when(1=1)or(not(2<sun))and sun=1;");
        for (char sign : "@[`{".toCharArray()) {
            fault(c, "worth sun" + sign + ";", 1, 9);
        }
    }

    private static void digits(Check c) {
        value(c, "worth 7;", 7);
        value(c, "worth 77;", 77);
        value(c, "worth 777;", 777);
        value(c, "worth 7777;", 7777);
        value(c, "worth 0007;", 7);
        value(c, "worth 0000;", 0);
        value(c, "worth 1234+5678;", 6912);
        value(c, "worth 9012;", 9012);
        fault(c, "worth 77777;", 1, 6);
        fault(c, "worth 00007;", 1, 6);
        fault(c, "worth 00000;", 1, 6);
        fault(c, "worth 4294967297;", 1, 6);
        fault(c, "worth " + "7".repeat(394), 1, 6);
        fault(c, "worth 7 7;", 1, 8);
        fault(c, "worth 7sun;", 1, 7);
        fault(c, "worth sun7;", 1, 9);
        fault(c, "worth 1 when day>12345;", 1, 17);
        fault(c, "worth 7/;", 1, 8);
        fault(c, "worth 7:;", 1, 7);
    }

    /** Every byte between two numbers: joints and digits join, blanks part, whatever else can't stand there. */
    private static void signs(Check c) {
        for (char sign = 0; sign < 256; sign++) {
            String text = "worth 1" + sign + "2;";
            boolean joins = "+-*/0123456789".indexOf(sign) >= 0;
            boolean isBlank = sign == 32 || sign == 10;
            boolean ends = sign == ';';
            fault(c, text, joins ? 0 : 1, joins ? -1 : isBlank || ends ? 8 : 7);
        }
        reads(c, "worth 1+2-3*4/5 when(1<2)or 1=2 or 1>2;");
    }

    private static void blanks(Check c) {
        reads(c, " \n worth\n1 \n\n+  2 when ( 1\n=\n1 ) \n ; \n");
        reads(c, "worth 1 when 1=1;\n");
        for (char sign = 0; sign < 256; sign++) {
            boolean mayStand = sign == 32 || sign == 10 || sign >= '0' && sign <= '9';
            boolean isLetter = sign >= 'a' && sign <= 'z' || sign >= 'A' && sign <= 'Z';
            fault(c, "worth" + sign + "1;", mayStand ? 0 : 1, mayStand ? -1 : isLetter ? 0 : 5);
        }
        // A blank parts what would stand together.
        fault(c, "wor th 1;", 1, 0);
        fault(c, "worth 1 2;", 1, 8);
    }

    private static void wraps(Check c) {
        // 9999 * 9999 * 21 is an int still, 9999 * 9999 * 22 is not and wraps to -2095407274.
        value(c, "worth 9999*9999*21/1000/1000;", 2099);
        value(c, "worth 9999*9999*22/1000/1000;", -2095);
        value(c, "worth 1 when 9999*9999*22<0;", 1);
        value(c, "worth 1 when 9999*9999*21+9999*9999<0;", 1);
        value(c, "worth 1 when 0-9999*9999*21-9999*9999>0;", 1);
        value(c, "worth 1 when 256*256*256*256=0;", 1);
        value(c, "worth 1 when 256*256*256*128-1>0;", 1);
    }

    private static void towards0(Check c) {
        value(c, "worth 7/2;", 3);
        value(c, "worth wind/3;", -1);
        value(c, "worth wind/5;", 0);
        value(c, "worth wind*2/3;", -2);
        value(c, "worth 9999*9999*22/9999/100;", -2095);
        value(c, "worth 0*9/9999;", 0);
        value(c, "worth 9998/9999;", 0);
        value(c, "worth 9999/9999;", 1);
    }

    private static void firstByPlace(Check c) {
        fault(c, "worth 1/0;worth x;", 2, 8);
        fault(c, "worth x;worth 1/0;", 1, 6);
        fault(c, "worth 1/0 when " + "not ".repeat(9) + "1=1;", 2, 8);
        fault(c, "worth 1 when " + "not ".repeat(9) + "1/0=1;", 3, 45);
        fault(c, "worth 1 when " + "not ".repeat(8) + "1/0=1;", 2, 47);
        fault(c, "worth 1;".repeat(16) + "worth x;", 3, 128);
        fault(c, "worth 1;".repeat(15) + "worth x;worth 1;", 1, 126);
        fault(c, "worth 1;".repeat(15) + "worth 1/0;worth 1;", 2, 128);
        fault(c, "worth 1+;!", 1, 8);
        fault(c, "worth 1;!worth", 1, 8);
        fault(c, "worth 12345 when 1/0=1;", 1, 6);
    }

    private static void leastAtOnePlace(Check c) {
        // A ninth ( or not where none can stand at all.
        fault(c, "worth 1 when " + "(".repeat(8) + "1(", 1, 22);
        fault(c, "worth 1 when " + "(".repeat(8) + "1=1 not", 1, 25);
        fault(c, "worth 1 when " + "not ".repeat(8) + "1=(", 1, 47);
        // A seventeenth worth where no line can begin.
        fault(c, "worth 1;".repeat(15) + "worth 1 worth 1;", 1, 128);
        // A part by 0 that is no number.
        fault(c, "worth 1/00000;", 1, 8);
    }

    private static void cannotStand(Check c) {
        fault(c, "x", 1, 0);
        fault(c, "  x", 1, 2);
        fault(c, "worth", 1, 5);
        fault(c, "worth )", 1, 6);
        fault(c, "worth 1 )", 1, 8);
        fault(c, "worth 1 when 1=1 ;)", 1, 18);
        fault(c, "worth 1 when 1=1 not", 1, 17);
        fault(c, "worth 1 when 1=1 (", 1, 17);
        fault(c, "worth 1 when 1=1 <", 1, 17);
        fault(c, "worth 1 < 2;", 1, 8);
        fault(c, "worth 1 and 2;", 1, 8);
        fault(c, "worth not 1=1;", 1, 6);
        fault(c, "worth 1;" + (char) 255, 1, 8);
        fault(c, (char) 0 + "worth 1;", 1, 0);
    }

    private static void theEnd(Check c) {
        fault(c, "worth", 1, 5);
        fault(c, "worth   ", 1, 8);
        fault(c, "worth 1\n\n", 1, 9);
        fault(c, "worth 1+", 1, 8);
        fault(c, "worth 1/", 1, 8);
        fault(c, "worth 1 when", 1, 12);
        fault(c, "worth 1 when 1", 1, 14);
        fault(c, "worth 1 when 1=", 1, 15);
        fault(c, "worth 1 when (1=1", 1, 17);
        fault(c, "worth 1 when not ", 1, 17);
        fault(c, "worth 1;worth 2 ", 1, 16);
        fault(c, "worth 1" + " ".repeat(393), 1, 400);
        fault(c, "worth 1" + "+1".repeat(196) + "+", 1, 400);
        reads(c, "worth 1" + "+1".repeat(196) + ";");
        reads(c, " ".repeat(400));
    }

    private static void partBy0(Check c) {
        fault(c, "worth 1/0;", 2, 8);
        fault(c, "worth 1/00;", 2, 8);
        fault(c, "worth 1/0000;", 2, 8);
        fault(c, "worth 1 / \n 0;", 2, 12);
        fault(c, "worth 0/0;", 2, 8);
        fault(c, "worth 8/2/0;", 2, 10);
        fault(c, "worth 1 when 1=2/0;", 2, 17);
        fault(c, "worth 1/0", 2, 8);
        reads(c, "worth 0/1;");
        reads(c, "worth 1*0;");
        reads(c, "worth 1/0001;");
        reads(c, "worth 1/1*0;");
    }

    private static void line17(Check c) {
        String sixteen = "worth 1;".repeat(16);
        TurnedIsland x = new TurnedIsland();
        c.due("sixteen lines", Check.tell(x, 0, sixteen), 16);
        x.plot(0, 1, 0, 0);
        c.due("all sixteen count", x.worth(0, 0, 0, 0), 16);
        reads(c, sixteen + " \n");
        fault(c, sixteen + "worth 1;", 3, 128);
        fault(c, sixteen + "\n worth 1;", 3, 130);
        fault(c, sixteen + "worth", 3, 128);
        fault(c, "worth 1;".repeat(20), 3, 128);
        fault(c, sixteen + "when", 1, 128);
        fault(c, sixteen + "worths", 1, 128);
        fault(c, sixteen + ";", 1, 128);
    }

    private static void open9(Check c) {
        String when = "worth 1 when ";
        reads(c, when + "(".repeat(8) + "1=1" + ")".repeat(8) + ";");
        fault(c, when + "(".repeat(9) + "1=1" + ")".repeat(9) + ";", 3, 21);
        reads(c, when + "not ".repeat(8) + "1=1;");
        fault(c, when + "not ".repeat(9) + "1=1;", 3, 45);
        reads(c, when + "not(".repeat(4) + "1=1" + ")".repeat(4) + ";");
        fault(c, when + "not(".repeat(4) + "(1=1)" + ")".repeat(4) + ";", 3, 29);
        fault(c, when + "not(".repeat(4) + "not 1=1" + ")".repeat(4) + ";", 3, 29);
        fault(c, when + "(not ".repeat(4) + "(1=1)" + ")".repeat(4) + ";", 3, 33);
        // What is closed again is not open, however often that is.
        reads(c, when + "(1=1)or ".repeat(12) + "1=1;");
        reads(c, when + "not 1=1 and ".repeat(12) + "1=1;");
        reads(c, when + "(".repeat(7) + "(1=1)or not 1=1 and(1=1)" + ")".repeat(7) + ";");
        fault(c, when + "(".repeat(7) + "(1=1)or not(1=1)" + ")".repeat(7) + ";", 3, 31);
        fault(c, when + "(".repeat(8) + "1=1 or not 1=1", 3, 28);
        // A line's are closed with it.
        reads(c, (when + "(".repeat(8) + "1=1" + ")".repeat(8) + ";").repeat(2));
        // The eight that are open are reckoned with all that waits to be joined.
        value(c, when + "1=2 or 1=1 and(".repeat(8) + "1*2+3*4=2*3+4*2" + ")".repeat(8) + ";", 1);
        value(c, when + "1=2 or 1=1 and not(".repeat(4) + "1*2+3*4<2*3+4*2" + ")".repeat(4) + ";", 0);
    }

    private static void worthOfADay(Check c) {
        TurnedIsland x = new TurnedIsland();
        Check.tell(x, 0, "worth angle+100*day+1000*turned;");
        x.plot(11, 1, 0, 0);
        x.set(0, 5);
        x.set(1, 7);
        c.due("of another day and angle than it is", x.worth(0, 2, 3, 0), 202);
        c.due("with a turn", x.worth(0, 2, 3, 1), 1202);
        c.due("with a turn back", x.worth(0, 2, 3, -1), 1202);
        c.due("with a turn of 2", x.worth(0, 2, 3, 2), -100000);
        c.due("with a turn of -2", x.worth(0, 2, 3, -2), -100000);
    }

    private static void linesThatAreSo(Check c) {
        value(c, "worth 1;worth 2 when 1=1;worth 4 when 1=2;worth 8;", 11);
        value(c, "worth 1 when 1=2;", 0);
        value(c, "worth 0-1;worth 0-2 when 1=1;worth 0-4 when 1=2;", -3);
        value(c, "worth angle when angle=5;worth 100*angle when angle=4;", 5);
    }

    private static void addedExactly(Check c) {
        // Two that are near the greatest int would wrap into a number below 0.
        value(c, "worth 9999*9999*20;worth 9999*9999*20;", 9999);
        value(c, "worth 0-9999*9999*20;worth 0-9999*9999*20;", -9999);
        value(c, "worth 9999*9999*20;".repeat(4), 9999);
        // Held only when all are added: what comes later can take back what is beyond.
        value(c, "worth 9999;worth 9999;worth 0-9999;worth 0-9998;", 1);
        value(c, "worth 0-9999;worth 0-9999;worth 9999;worth 9998;", -1);
        value(c, "worth 9999*9999*20;worth 9999*9999*20;worth 0-9999*9999*20;worth 0-9999*9999*20;worth 6;", 6);
    }

    private static void held(Check c) {
        value(c, "worth 9998;", 9998);
        value(c, "worth 9998+1;", 9999);
        value(c, "worth 9999+1;", 9999);
        value(c, "worth 9999*9999;", 9999);
        value(c, "worth 0-9998;", -9998);
        value(c, "worth 0-9998-1;", -9999);
        value(c, "worth 0-9999-1;", -9999);
        value(c, "worth 0-9999*9999;", -9999);
        // A line by itself is not held.
        value(c, "worth 9999+9999;worth 0-9999;", 9999);
        value(c, "worth 9999+9999;worth 0-9999-1;", 9998);
    }

    private static void angleOfPlot(Check c) {
        TurnedIsland x = new TurnedIsland();
        Check.tell(x, 0, "worth angle;");
        x.plot(0, 1, 0, 0);
        x.plot(11, 1, 0, 0);
        for (int angle = 0; angle < 12; angle++) {
            c.due("place 0, island at " + angle, x.worth(0, 0, angle, 0), angle);
            c.due("place 11, island at " + angle, x.worth(1, 0, angle, 0), angle == 0 ? 11 : angle - 1);
        }
    }

    private static void skyThere(Check c) {
        TurnedIsland x = new TurnedIsland();
        Check.tell(x, 0, "worth sun+10*wind+100*current;");
        x.plot(11, 1, 0, 0);
        x.sky(0, 1, 0, 1);
        x.sky(1, 1, 0, 2);
        x.sky(2, 1, 0, 3);
        c.due("the plot at 0 in month 1", x.worth(0, 30, 1, 0), 321);
        c.due("the plot at 0 in month 1 of the next year", x.worth(0, 419, 1, 0), 321);
        c.due("the plot at 11", x.worth(0, 30, 0, 0), 0);
        c.due("the month ahead", x.worth(0, 29, 1, 0), 0);
        c.due("the month behind", x.worth(0, 60, 1, 0), 0);
        x.set(1, 30);
        c.due("another month than it is", x.worth(0, 0, 1, 0), 0);
    }

    private static void monthAndDay(Check c) {
        TurnedIsland x = new TurnedIsland();
        Check.tell(x, 0, "worth month;");
        Check.tell(x, 1, "worth day;");
        x.plot(0, 1, 0, 0);
        x.plot(0, 1, 1, 0);
        int[][] due = {{0, 0}, {29, 0}, {30, 1}, {31, 1}, {359, 11}, {360, 0}, {9999, 9}};
        for (int[] d : due) {
            c.due("month on day " + d[0], x.worth(0, d[0], 0, 0), d[1]);
            c.due("day on day " + d[0], x.worth(1, d[0], 0, 0), d[0]);
        }
        // What is told in between changes nothing about which day it is.
        for (int day = 0; day < 62; day++) {
            x.sky(0, 0, 0, day % 9);
            c.due("month on day " + day, x.worth(0, day, 0, 0), day / 30);
            c.due("day on day " + day, x.worth(1, day, 0, 0), day);
        }
    }

    private static void turnedOrNot(Check c) {
        TurnedIsland x = new TurnedIsland();
        Check.tell(x, 0, "worth turned+1;");
        x.plot(0, 1, 0, 0);
        c.due("without a turn", x.worth(0, 0, 0, 0), 1);
        c.due("with 1", x.worth(0, 0, 0, 1), 2);
        c.due("with -1", x.worth(0, 0, 0, -1), 2);
    }

    private static void withoutAWant(Check c) {
        TurnedIsland x = new TurnedIsland();
        for (int k = 0; k < 4; k++) {
            Check.tell(x, k, "worth 5;");
        }
        x.plot(0, 1, 4, 0);
        c.due("worth", x.worth(0, 0, 0, 0), 0);
        c.due("worth with a turn", x.worth(0, 0, 0, 1), 0);
        x.noons(1);
        c.due("coin", x.of(0, 3), 0);
    }
}
