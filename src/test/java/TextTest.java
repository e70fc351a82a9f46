/** Promises 6 to 10: the tape, wants, faults and worth. */
public final class TextTest {
    private static final Check CHECK = new Check();
    private static final int BLANKS = 0x20202020;

    public static void main(String[] args) {
        promise06Feed();
        promise07End();
        promise08Text();
        promise09Fault();
        promise10Worth();
        CHECK.close();
    }

    private static void promise06Feed() {
        TurnedIsland x = new TurnedIsland();
        for (int i = 1; i <= 20; i++) {
            CHECK.due("feed", x.feed(BLANKS, BLANKS, BLANKS, BLANKS, BLANKS), 20 * i);
        }
        CHECK.due("feed beyond 400", x.feed(0, 0, 0, 0, 0), -1);
        CHECK.due("nothing came", x.text(0), 0);
        Check.feed(x, "worth 1234;worth 5;");
        CHECK.due("highest first", x.text(0), 2);
        x.plot(0, 1, 0, 0);
        CHECK.due("numbers as they were fed", x.worth(0, 0, 0, 0), 1239);
        CHECK.due("bytes above 127 are fed", x.feed(-1, -1, -1, -1, -1), 20);
        CHECK.due("and can't stand", x.text(0), -1);
    }

    private static void promise07End() {
        TurnedIsland x = new TurnedIsland();
        CHECK.yes("end(0) of nothing", x.end(0));
        CHECK.no("end(1) of nothing", x.end(1));
        x.feed(BLANKS, BLANKS, BLANKS, BLANKS, BLANKS);
        CHECK.no("end(21)", x.end(21));
        CHECK.no("end(-1)", x.end(-1));
        CHECK.no("end of the least", x.end(Integer.MIN_VALUE));
        CHECK.yes("end(20)", x.end(20));
        CHECK.yes("end(3)", x.end(3));
        CHECK.no("end(4)", x.end(4));
        CHECK.due("feed goes on behind", x.feed(0, 0, 0, 0, 0), 23);
        x.end(0);
        for (int i = 0; i < 19; i++) {
            x.feed(BLANKS, BLANKS, BLANKS, BLANKS, BLANKS);
        }
        x.feed(BLANKS, BLANKS, BLANKS, BLANKS, BLANKS);
        x.end(381);
        CHECK.due("381 and 20 are too many", x.feed(BLANKS, BLANKS, BLANKS, BLANKS, BLANKS), -1);
        x.end(380);
        CHECK.due("380 and 20 are not", x.feed(BLANKS, BLANKS, BLANKS, BLANKS, BLANKS), 400);
    }

    private static void promise08Text() {
        TurnedIsland x = new TurnedIsland();
        CHECK.due("the empty text", x.text(0), 0);
        CHECK.due("sixteen lines", Check.tell(x, 0, "worth 1;".repeat(16)), 16);
        CHECK.due("lines are kept", x.look(10), 16);
        CHECK.due("seventeen lines", Check.tell(x, 0, "worth 1;".repeat(17)), -1);
        CHECK.due("the want stays as it was", x.look(10), 16);
        CHECK.yes("the tape is empty behind a fault", x.end(0) && !x.end(1));
        for (int k : new int[] {-1, 4, Integer.MIN_VALUE, Integer.MAX_VALUE}) {
            Check.feed(x, "worth 1;");
            CHECK.due("text(" + k + ")", x.text(k), -1);
            CHECK.no("the tape is empty behind text(" + k + ")", x.end(1));
            CHECK.due("no fault behind text(" + k + ")", x.fault(0), 0);
            CHECK.due("no place behind text(" + k + ")", x.fault(1), -1);
        }
        CHECK.due("another want", Check.tell(x, 3, "worth 1;\n worth 2 ;"), 2);
        CHECK.due("a want may become empty", Check.tell(x, 0, " \n"), 0);
        CHECK.due("it is", x.look(10), 0);
        x.noons(1);
        Check.tell(x, 0, "worth 1;");
        CHECK.due("texts leave what can be undone", x.look(9), 1);
    }

    private static void fault(String text, int fault, int place) {
        TurnedIsland x = new TurnedIsland();
        CHECK.due("text " + text, Check.tell(x, 2, text) == -1, fault != 0);
        CHECK.due("fault(0) of " + text, x.fault(0), fault);
        CHECK.due("fault(1) of " + text, x.fault(1), place);
        CHECK.due("fault(2)", x.fault(2), -1);
        CHECK.due("fault(-1)", x.fault(-1), -1);
        CHECK.due("lines of " + text, x.look(12) > 0, fault == 0 && !text.isBlank());
    }

    private static void promise09Fault() {
        fault("", 0, -1);
        fault("worth5;", 0, -1);
        fault("worth 5when 1=1;", 0, -1);
        fault("worth 1when(1=1)and(not(2<1))or 3>2;", 0, -1);
        fault("worth 0000;worth 9999;", 0, -1);
        fault("worth  ", 1, 7);
        fault("worth 1", 1, 7);
        fault("worth 1 \n", 1, 9);
        fault(";", 1, 0);
        fault("worth 1;;", 1, 8);
        fault("worth 1;5", 1, 8);
        fault("worths 1;", 1, 0);
        fault("worth1 worth;", 1, 7);
        fault("Worth 1;", 1, 0);
        fault("worthX 1;", 1, 0);
        for (char letter : "azAZ".toCharArray()) {
            fault("worth" + letter + " 1;", 1, 0);
        }
        for (char sign : "`{@[".toCharArray()) {
            fault("worth" + sign + " 1;", 1, 5);
        }
        fault("worth Sun;", 1, 6);
        fault("worth when;", 1, 6);
        fault("worth -1;", 1, 6);
        fault("worth (1);", 1, 6);
        fault("worth 1+;", 1, 8);
        fault("worth 1*/2;", 1, 8);
        fault("worth 1/sun;", 1, 8);
        fault("worth 1 when (not 2/sun = 1);", 1, 20);
        fault("worth 1 when (not 2/", 1, 20);
        fault("worth 1 when (not 2/0 = 1);", 2, 20);
        fault("worth 1/2/00;", 2, 10);
        fault("worth 1/0000;", 2, 8);
        fault("worth 1/00000;", 1, 8);
        fault("worth 1/12345;", 1, 8);
        fault("worth 00001;", 1, 6);
        fault("worth 1/0 x;", 2, 8);
        fault("worth x 1/0;", 1, 6);
        fault("worth 0*0;", 0, -1);
        fault("worth 1 when 1;", 1, 14);
        fault("worth 1 when 1=;", 1, 15);
        fault("worth 1 when 1=2=3;", 1, 16);
        fault("worth 1 when 1<=2;", 1, 15);
        fault("worth 1 when (1=1;", 1, 17);
        fault("worth 1 when (1);", 1, 15);
        fault("worth 1 when (1+1)=2;", 1, 17);
        fault("worth 1 when 1=1);", 1, 16);
        fault("worth 1 when 1=1 or;", 1, 19);
        fault("worth 1 when 1=1 and and 1=1;", 1, 21);
        fault("worth 1 when 1=1 not 1=1;", 1, 17);
        fault("worth 1 when 1=1 when 1=1;", 1, 17);
        fault("worth 1 when not;", 1, 16);
        fault("worth\t1;", 1, 5);
        fault("worth\r1;", 1, 5);
        fault("worth 1;\u00e9", 1, 8);
        fault("worth\u00e9 1;", 1, 5);
        fault("worth 1;\0", 1, 8);
        fault("worth 1 2;", 1, 8);
        nested();
        lines();
        longest();
    }

    private static void nested() {
        fault("worth 1 when " + "(".repeat(8) + "1=1" + ")".repeat(8) + ";", 0, -1);
        fault("worth 1 when " + "(".repeat(9) + "1=1" + ")".repeat(9) + ";", 3, 21);
        fault("worth 1 when " + "not ".repeat(8) + "1=1;", 0, -1);
        fault("worth 1 when " + "not(".repeat(4) + "1=1" + ")".repeat(4) + ";", 0, -1);
        fault("worth 1 when " + "not(".repeat(4) + "not 1=1" + ")".repeat(4) + ";", 3, 29);
        fault("worth 1 when " + "not(".repeat(4) + "(1=1)" + ")".repeat(4) + ";", 3, 29);
        fault("worth 1 when " + "not(".repeat(4) + "x" + ")".repeat(4) + ";", 1, 29);
        // What is closed again doesn't count.
        fault("worth 1 when " + "not 1=1 and ".repeat(12) + "1=1;", 0, -1);
        fault("worth 1 when " + "(1=1) or ".repeat(12) + "1=1;", 0, -1);
        fault("worth 1 when " + "(".repeat(7) + "not 1=1 and not 1=1" + ")".repeat(7) + ";", 0, -1);
        fault("worth 1 when " + "(".repeat(7) + "not 1=1 and not not 1=1" + ")".repeat(7) + ";", 3, 36);
        fault("worth 1 when " + "(".repeat(8) + "1=1 or not 1=1", 3, 28);
        // A ( that can't stand there is fault 1, however many are open.
        fault("worth 1 when " + "(".repeat(8) + "1 (", 1, 23);
    }

    /** All of the tape's 400 bytes. */
    private static void longest() {
        fault("worth 1" + "+1".repeat(196) + ";", 0, -1);
        fault("worth 1" + "+1".repeat(196) + " ", 1, 400);
        fault("worth 1" + "+1".repeat(196) + "*", 1, 400);
        fault(" ".repeat(400), 0, -1);
        fault("+".repeat(400), 1, 0);
    }

    private static void lines() {
        String sixteen = "worth 1;".repeat(16);
        fault(sixteen, 0, -1);
        fault(sixteen + " worth 1;", 3, 129);
        fault(sixteen + "worth", 3, 128);
        fault(sixteen + "when", 1, 128);
        fault("worth 1/0;".repeat(17), 2, 8);
    }

    private static int value(String text, int day, int angle, int turn) {
        TurnedIsland x = new TurnedIsland();
        x.sky(0, 1, 5, 3);
        x.sky(1, 1, 5, -4);
        x.sky(2, 1, 5, 9);
        CHECK.due("reads " + text, Check.tell(x, 1, text) >= 0, true);
        x.plot(10, 1, 1, 0);
        return x.worth(0, day, angle, turn);
    }

    private static void worth(String text, int want) {
        CHECK.due("worth of " + text, value(text, 45, 7, 1), want);
    }

    private static void promise10Worth() {
        worth("", 0);
        worth("worth 1" + "+1".repeat(196) + ";", 197);
        worth("worth angle;", 5);
        worth("worth sun;worth 0-wind*2;", 11);
        worth("worth sun*100+wind*10+current;", 269);
        worth("worth month;", 1);
        worth("worth day;", 45);
        worth("worth turned;", 1);
        worth("worth 10-2-3;", 5);
        worth("worth 2+3*4-5;", 9);
        worth("worth 7/2*2;", 6);
        worth("worth wind*7/9;", -3);
        worth("worth 0-7/2;", -3);
        worth("worth 2*3/4*5;", 5);
        worth("worth 9999+1;", 9999);
        worth("worth 0-9999-1;", -9999);
        worth("worth 9999;worth 9999;worth 0-9999;", 9999);
        // 9999 * 9999 * 43 is beyond an int and wraps as Java's own does.
        worth("worth 9999*9999*43/9999/9999;", 9999 * 9999 * 43 / 9999 / 9999);
        worth("worth 9999*9999*43/1000;", Math.max(-9999, Math.min(9999, 9999 * 9999 * 43 / 1000)));
        // Lines are added exactly, so two that are near the greatest int don't wrap into a small sum.
        worth("worth 9999*9999*20;worth 9999*9999*20;", 9999);
        worth("worth 1 when 1=1 or 1=1 and 1=2;", 1);
        worth("worth 1 when 1=2 and 1=1 or 1=1;", 1);
        worth("worth 1 when 1=2 and (1=1 or 1=1);", 0);
        worth("worth 1 when not 1=1 or 1=1;", 1);
        worth("worth 1 when not (1=1 or 1=1);", 0);
        worth("worth 1 when not 1=2 and 1=2;", 0);
        worth("worth 1 when not not 1=1;", 1);
        worth("worth 1 when 1<2;worth 2 when 2<2;worth 4 when 3<2;", 1);
        worth("worth 1 when 1>2;worth 2 when 2>2;worth 4 when 3>2;", 4);
        worth("worth 1 when 1=2;worth 2 when 2=2;", 2);
        worth("worth 1 when 9999*9999*43<0;", 9999 * 9999 * 43 < 0 ? 1 : 0);
        CHECK.due("without a turn", value("worth turned;", 45, 7, 0), 0);
        CHECK.due("with a turn back", value("worth turned;", 45, 7, -1), 1);
        CHECK.due("the last day", value("worth day;", 9999, 0, 0), 9999);
        CHECK.due("the last day's month", value("worth month;", 9999, 0, 0), 9);
        wrongWorths();
    }

    private static void wrongWorths() {
        TurnedIsland x = new TurnedIsland();
        Check.tell(x, 0, "worth 3;");
        x.plot(0, 1, 0, 0);
        x.plot(0, 1, 4, 0);
        CHECK.due("without a want", x.worth(1, 0, 0, 0), 0);
        int[][] wrong = {{-1, 0, 0, 0}, {2, 0, 0, 0}, {0, -1, 0, 0}, {0, 10000, 0, 0}, {0, 0, -1, 0},
            {0, 0, 12, 0}, {0, 0, 0, -2}, {0, 0, 0, 2}};
        for (int[] w : wrong) {
            CHECK.due("worth out of range", x.worth(w[0], w[1], w[2], w[3]), -100000);
        }
        Check.tell(x, 0, "worth 4;");
        CHECK.due("a text told anew is seen at once", x.worth(0, 0, 0, 0), 4);
    }
}
