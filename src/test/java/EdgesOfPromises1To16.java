/** Promises 1 to 16: what is told, and noons. */
final class EdgesOfPromises1To16 {
    private static final int BLANKS = 0x20202020;
    private static final int MIN = Integer.MIN_VALUE;
    private static final int MAX = Integer.MAX_VALUE;

    private EdgesOfPromises1To16() {
    }

    static void all(Edges e) {
        e.promise(1);
        e.edge("An island of twelve notches, no plots.", EdgesOfPromises1To16::newObject);
        e.promise(2);
        e.edge("NOTCHES are told: true;", EdgesOfPromises1To16::notchesTold);
        e.edge("false, and nothing is done, if they can't be.", EdgesOfPromises1To16::notchesRefused);
        e.promise(3);
        e.edge("SKY what 0 SUN, 1 WIND, 2 CURRENT in a MONTH at an angle: true;", EdgesOfPromises1To16::skyTold);
        e.edge("false if one can't be.", EdgesOfPromises1To16::skyRefused);
        e.promise(4);
        e.edge("A PLOT: its number;", EdgesOfPromises1To16::plotTold);
        e.edge("NONE if one can't be,", EdgesOfPromises1To16::plotRefused);
        e.edge("or there are ten.", EdgesOfPromises1To16::tenPlots);
        e.promise(5);
        e.edge("What 0 ANGLE, 1 DAY, 2 GREASE, 3 PULL: true;", EdgesOfPromises1To16::setTold);
        e.edge("false if one can't be,", EdgesOfPromises1To16::setRefused);
        e.edge("or another what.", EdgesOfPromises1To16::setAnotherWhat);
        texts(e);
        trades(e);
        e.promise(16);
        e.edge("NOONS (1 .. 400): how many turns were made;", EdgesOfPromises1To16::noonsMade);
        e.edge("NONE, and nothing is done, if one can't be,", EdgesOfPromises1To16::noonsRefused);
        e.edge("or beyond DAY 9999.", EdgesOfPromises1To16::noonsBeyond);
    }

    private static void texts(Edges e) {
        e.promise(6);
        e.edge("Twenty bytes come behind the TAPE, of each number the highest first: how many it has.",
                EdgesOfPromises1To16::fed);
        e.edge("NONE, and nothing comes, if there would be more than 400.", EdgesOfPromises1To16::fedTooMuch);
        e.promise(7);
        e.edge("The TAPE has its first n bytes alone: true;", EdgesOfPromises1To16::ended);
        e.edge("false, changing nothing, if it has not so many,", EdgesOfPromises1To16::endedBeyond);
        e.edge("or n is below 0.", EdgesOfPromises1To16::endedBelow0);
        e.promise(8);
        e.edge("The TAPE, empty then, is WANT k: how many lines.", EdgesOfPromises1To16::textTold);
        e.edge("NONE: no such one (fault() tells 0),", EdgesOfPromises1To16::noSuchWant);
        e.edge("or a FAULT (it stays as it was).", EdgesOfPromises1To16::textWithAFault);
        e.promise(9);
        e.edge("Of the latest text(): what 0 the FAULT (0 without one),", EdgesOfPromises1To16::faultTold);
        e.edge("1 its place (NONE).", EdgesOfPromises1To16::faultPlace);
        e.edge("NONE for another what.", EdgesOfPromises1To16::faultOfAnotherWhat);
        e.promise(10);
        e.edge("WORTH of a DAY (0 .. 9999) to an owner with an ANGLE, with a turn;",
                EdgesOfPromises1To16::worthTold);
        e.edge("NONE - 99999 if one can't be.", EdgesOfPromises1To16::worthRefused);
    }

    private static void trades(Edges e) {
        e.promise(11);
        e.edge("A SALE: true;", EdgesOfPromises1To16::sold);
        e.edge("false if one can't be", EdgesOfPromises1To16::notSold);
        e.edge("(the owner himself;", EdgesOfPromises1To16::notSoldToHimself);
        e.edge("a DAY gone,", EdgesOfPromises1To16::notSoldOnDaysGone);
        e.edge("above 9999", EdgesOfPromises1To16::notSoldAbove9999);
        e.edge("or SOLD;", EdgesOfPromises1To16::notSoldTwice);
        e.edge("to ahead of from),", EdgesOfPromises1To16::notSoldToAheadOfFrom);
        e.edge("or there are sixty.", EdgesOfPromises1To16::sixtySales);
        e.promise(12);
        e.edge("A PROMISE: its number;", EdgesOfPromises1To16::promised);
        e.edge("NONE if one can't be", EdgesOfPromises1To16::notPromised);
        e.edge("(until ahead of from; 0 .. 9999),", EdgesOfPromises1To16::notPromisedForSuchDays);
        e.edge("or there are 24,", EdgesOfPromises1To16::promises24);
        e.edge("or ten of that owner.", EdgesOfPromises1To16::tenOfThatOwner);
        e.promise(13);
        e.edge("A PROMISE is DROPPED: true;", EdgesOfPromises1To16::dropped);
        e.edge("false if there is none such, or it is.", EdgesOfPromises1To16::notDropped);
        e.promise(14);
        e.edge("How the HOLDER of a PLOT would vote now: -1, 0, 1 and 2 (1, 2, 3);", EdgesOfPromises1To16::votes);
        e.edge("NONE if there is none such.", EdgesOfPromises1To16::noVotes);
        e.promise(15);
        e.edge("Who HOLDS a PLOT's vote on a DAY;", EdgesOfPromises1To16::holder);
        e.edge("NONE if one can't be.", EdgesOfPromises1To16::noHolder);
    }

    private static void newObject(Check c) {
        TurnedIsland x = new TurnedIsland();
        int[] first = {12, 0, 0, 99, 0, 0, 0, 0, 0, 0, 0, 0, 0, 0};
        for (int what = 0; what < first.length; what++) {
            c.due("look(" + what + ")", x.look(what), first[what]);
        }
        c.due("fault(0)", x.fault(0), 0);
        c.due("fault(1)", x.fault(1), -1);
        c.yes("the tape is empty", x.end(0));
        c.no("and has no byte", x.end(1));
        c.due("worth", x.worth(0, 0, 0, 0), -100000);
        c.due("votes", x.votes(0), -1);
        c.due("holder", x.holder(0, 0), -1);
        c.due("of", x.of(0, 0), -100000);
        c.due("turned", x.turned(0), -1);
        c.due("best", x.best(30, 0), 0);
        c.due("a best turn", x.best(30, 39), 2);
        c.due("alone", x.alone(1, 1), -1000000);
        c.due("leave", x.leave(6), -1);
        c.due("quarrel", x.quarrel(), -1);
        c.due("fewest", x.fewest(0), -1);
        c.due("boat", x.boat(0, 0, 0), -1);
        c.due("back", x.back(0, 0, 0), 36);
        c.no("drop", x.drop(0));
        c.no("sell", x.sell(0, 1, 0, 0, 0));
        c.due("promise", x.promise(0, 0, 0, 0), -1);
        c.no("pay", x.pay(0, 0));
        c.no("log", x.log(0, 0, 0));
        c.no("undo", x.undo());
        c.no("image", x.image(false));
        c.due("look(20)", x.look(20), -100000);
        c.due("noons", x.noons(1), 0);
        c.due("day", x.look(2), 1);
    }

    private static void notchesTold(Check c) {
        TurnedIsland x = new TurnedIsland();
        int[] told = {4, 24, 12, 12, 5, 23};
        for (int n : told) {
            c.yes("notches(" + n + ")", x.notches(n));
            c.due("look(0)", x.look(0), n);
            c.yes("the last angle", x.set(0, n - 1));
            c.no("one more", x.set(0, n));
        }
    }

    private static void notchesRefused(Check c) {
        TurnedIsland x = Check.island(2);
        Check.tell(x, 0, "worth 1;");
        x.plot(0, 1, 0, 6);
        x.set(0, 11);
        x.pay(0, 4);
        x.noons(2);
        for (int n : new int[] {3, 25, 0, -1, MIN, MAX}) {
            c.no("notches(" + n + ")", x.notches(n));
        }
        int[] due = {12, 11, 2, 99, 0, 3, 0, 0, 0, 2, 1};
        for (int what = 0; what < due.length; what++) {
            c.due("look(" + what + ")", x.look(what), due[what]);
        }
        c.due("coin", x.of(2, 3), 8);
        c.due("payment", x.look(20), 4);
        c.due("book", x.turned(1), 2);
    }

    private static void skyTold(Check c) {
        TurnedIsland x = new TurnedIsland();
        Check.tell(x, 0, "worth sun+10*wind+100*current;");
        x.plot(0, 1, 0, 0);
        c.due("worth", x.worth(0, 0, 0, 0), 0);
        c.yes("sun", x.sky(0, 0, 0, 1));
        c.due("worth with sun", x.worth(0, 0, 0, 0), 1);
        c.yes("wind", x.sky(1, 0, 0, 2));
        c.due("worth with wind", x.worth(0, 0, 0, 0), 21);
        c.yes("current", x.sky(2, 0, 0, 3));
        c.due("worth with current", x.worth(0, 0, 0, 0), 321);
        c.yes("sun told anew", x.sky(0, 0, 0, -1));
        c.due("worth with another sun", x.worth(0, 0, 0, 0), 319);
        c.yes("the last month", x.sky(0, 11, 11, 9));
        c.due("worth in the last month", x.worth(0, 330, 11, 0), 9);
    }

    private static void skyRefused(Check c) {
        TurnedIsland x = new TurnedIsland();
        Check.tell(x, 0, "worth sun+10*wind+100*current;");
        x.plot(0, 1, 0, 0);
        int[][] wrong = {{-1, 0, 0, 5}, {3, 0, 0, 5}, {MAX, 0, 0, 5}, {MIN, 0, 0, 5}, {0, -1, 0, 5}, {0, 12, 0, 5},
            {0, MAX, 0, 5}, {0, MIN, 0, 5}, {0, 0, -1, 5}, {0, 0, 12, 5}, {0, 0, MAX, 5}, {0, 0, MIN, 5},
            {0, 0, 0, -10}, {0, 0, 0, 10}, {0, 0, 0, MAX}, {0, 0, 0, MIN}, {2, 11, 12, 5}};
        for (int[] w : wrong) {
            c.no("sky(" + w[0] + ", " + w[1] + ", " + w[2] + ", " + w[3] + ")", x.sky(w[0], w[1], w[2], w[3]));
        }
        for (int month = 0; month < 12; month += 11) {
            for (int angle = 0; angle < 12; angle++) {
                c.due("nothing at " + angle + " in " + month, x.worth(0, 30 * month, angle, 0), 0);
            }
        }
        TurnedIsland y = new TurnedIsland();
        y.notches(4);
        c.yes("angle 3 of four", y.sky(0, 0, 3, 5));
        c.no("angle 4 of four", y.sky(0, 0, 4, 5));
    }

    private static void plotTold(Check c) {
        TurnedIsland x = new TurnedIsland();
        c.due("the first", x.plot(11, 9, 4, 99999), 0);
        c.due("the second", x.plot(0, 1, 0, -99999), 1);
        c.due("one like it", x.plot(0, 1, 0, -99999), 2);
        int[][] due = {{11, 9, 4, 99999}, {0, 1, 0, -99999}, {0, 1, 0, -99999}};
        for (int p = 0; p < 3; p++) {
            for (int what = 0; what < 4; what++) {
                c.due("of(" + p + ", " + what + ")", x.of(p, what), due[p][what]);
            }
            c.due("payment", x.look(20 + p), 0);
        }
    }

    private static void plotRefused(Check c) {
        TurnedIsland x = new TurnedIsland();
        int[][] wrong = {{-1, 1, 0, 0}, {12, 1, 0, 0}, {MIN, 1, 0, 0}, {MAX, 1, 0, 0}, {0, 0, 0, 0}, {0, 10, 0, 0},
            {0, -1, 0, 0}, {0, MAX, 0, 0}, {0, 1, -1, 0}, {0, 1, 5, 0}, {0, 1, MAX, 0}, {0, 1, 0, 100000},
            {0, 1, 0, -100000}, {0, 1, 0, MAX}, {0, 1, 0, MIN}};
        for (int[] w : wrong) {
            c.due("plot(" + w[0] + ", " + w[1] + ", " + w[2] + ", " + w[3] + ")", x.plot(w[0], w[1], w[2], w[3]), -1);
        }
        c.due("no plot came", x.look(5), 0);
        c.due("the first has number 0", x.plot(0, 1, 0, 0), 0);
    }

    private static void tenPlots(Check c) {
        TurnedIsland x = Check.island(9);
        c.due("the tenth", x.plot(5, 2, 3, 4), 9);
        c.due("the eleventh", x.plot(6, 3, 2, 1), -1);
        c.due("plots", x.look(5), 10);
        c.due("the tenth is as it was", x.of(9, 0), 5);
        c.due("there is no eleventh", x.of(10, 0), -100000);
    }

    private static void setTold(Check c) {
        TurnedIsland x = new TurnedIsland();
        int[] most = {11, 9999, 999, 99};
        for (int what = 0; what < 4; what++) {
            for (int v : new int[] {0, 1, most[what] - 1, most[what]}) {
                c.yes("set(" + what + ", " + v + ")", x.set(what, v));
                for (int other = 0; other < 4; other++) {
                    int due = other == what ? v : other < what ? most[other] : other == 2 ? 99 : 0;
                    c.due("look(" + (other + 1) + ") behind set(" + what + ", " + v + ")", x.look(other + 1), due);
                }
            }
        }
    }

    private static void setRefused(Check c) {
        TurnedIsland x = new TurnedIsland();
        int[] most = {11, 9999, 999, 99};
        for (int what = 0; what < 4; what++) {
            x.set(what, 7);
            for (int v : new int[] {-1, most[what] + 1, MIN, MAX}) {
                c.no("set(" + what + ", " + v + ")", x.set(what, v));
                c.due("look(" + (what + 1) + ") behind it", x.look(what + 1), 7);
            }
        }
    }

    private static void setAnotherWhat(Check c) {
        TurnedIsland x = new TurnedIsland();
        for (int what : new int[] {-1, 4, 5, MIN, MAX}) {
            c.no("set(" + what + ", 1)", x.set(what, 1));
        }
        int[] due = {12, 0, 0, 99, 0};
        for (int what = 0; what < due.length; what++) {
            c.due("look(" + what + ")", x.look(what), due[what]);
        }
    }

    private static void fed(Check c) {
        TurnedIsland x = new TurnedIsland();
        for (int n = 20; n <= 400; n += 20) {
            c.due("feed", x.feed(BLANKS, BLANKS, BLANKS, BLANKS, BLANKS), n);
        }
        // "worth 1234;worth 50" and, behind what was cut, "00;" of which the numbers tell the order.
        TurnedIsland y = new TurnedIsland();
        c.due("feed", y.feed(0x776f7274, 0x68203132, 0x33343b77, 0x6f727468, 0x20353039), 20);
        c.yes("end(19)", y.end(19));
        c.due("feed behind it", y.feed(0x30303b20, 0x20202020, 0x20202020, 0x20202020, 0x20202020), 39);
        c.due("lines", y.text(0), 2);
        y.plot(0, 1, 0, 0);
        c.due("1234 and 5000", y.worth(0, 0, 0, 0), 6234);
        // A number below 0 has its highest byte above 127.
        TurnedIsland z = new TurnedIsland();
        c.due("feed of -1", z.feed(0x776f7274, 0x6820313b, -1, -1, -1), 20);
        z.text(0);
        c.due("the byte 255 can't stand", z.fault(1), 8);
        z.feed(0x776f7274, 0x6820313b, 0x20202020, 0x202020ff, 0x3b202020);
        z.text(0);
        c.due("the lowest byte comes last", z.fault(1), 15);
    }

    private static void fedTooMuch(Check c) {
        TurnedIsland x = new TurnedIsland();
        Check.feed(x, "worth 7;" + " ".repeat(392));
        c.due("420 would be too many", x.feed(0, 0, 0, 0, 0), -1);
        c.yes("there are 400", x.end(400));
        c.yes("381", x.end(381));
        c.due("401 would be too many", x.feed(0, 0, 0, 0, 0), -1);
        c.no("nothing came", x.end(382));
        c.yes("380", x.end(380));
        c.due("400 are not", x.feed(BLANKS, BLANKS, BLANKS, BLANKS, BLANKS), 400);
        c.due("the text is as it was", x.text(0), 1);
        c.due("the tape is empty, so there is room", x.feed(0, 0, 0, 0, 0), 20);
    }

    private static void ended(Check c) {
        TurnedIsland x = new TurnedIsland();
        c.yes("end(0) of nothing", x.end(0));
        x.feed(0x776f7274, 0x6820313b, 0x776f7274, 0x6820323b, 0x21212121);
        c.yes("end(20) of twenty", x.end(20));
        c.yes("end(16)", x.end(16));
        c.due("the first sixteen", x.text(0), 2);
        x.feed(0x776f7274, 0x6820313b, 0x776f7274, 0x6820323b, 0x21212121);
        c.yes("end(8)", x.end(8));
        c.due("feed comes behind them", x.feed(0x776f7274, 0x6820333b, BLANKS, BLANKS, BLANKS), 28);
        c.due("two lines", x.text(0), 2);
        x.plot(0, 1, 0, 0);
        c.due("the first and the one fed later", x.worth(0, 0, 0, 0), 4);
        x.feed(0x21212121, 0, 0, 0, 0);
        c.yes("end(0)", x.end(0));
        c.due("an empty text", x.text(0), 0);
    }

    private static void endedBeyond(Check c) {
        TurnedIsland x = new TurnedIsland();
        c.no("end(1) of nothing", x.end(1));
        x.feed(BLANKS, BLANKS, BLANKS, BLANKS, BLANKS);
        c.no("end(21) of twenty", x.end(21));
        c.no("end of the most", x.end(MAX));
        c.yes("twenty are there", x.end(20));
        c.yes("end(5)", x.end(5));
        c.no("end(6) of five", x.end(6));
        c.due("five are there", x.feed(BLANKS, BLANKS, BLANKS, BLANKS, BLANKS), 25);
    }

    private static void endedBelow0(Check c) {
        TurnedIsland x = new TurnedIsland();
        c.no("end(-1) of nothing", x.end(-1));
        x.feed(BLANKS, BLANKS, BLANKS, BLANKS, BLANKS);
        c.no("end(-1)", x.end(-1));
        c.no("end of the least", x.end(MIN));
        c.due("twenty are there", x.feed(BLANKS, BLANKS, BLANKS, BLANKS, BLANKS), 40);
    }

    private static void textTold(Check c) {
        TurnedIsland x = new TurnedIsland();
        c.due("the empty tape", x.text(0), 0);
        for (int k = 0; k < 4; k++) {
            c.due("text(" + k + ")", Check.tell(x, k, "worth 1;".repeat(k + 1)), k + 1);
            c.no("the tape is empty then", x.end(1));
        }
        for (int k = 0; k < 4; k++) {
            c.due("lines of " + k, x.look(10 + k), k + 1);
        }
        c.due("an empty tape makes the want empty", x.text(3), 0);
        c.due("its lines", x.look(13), 0);
        c.due("another's lines", x.look(12), 3);
        x.plot(0, 1, 1, 0);
        c.due("worth", x.worth(0, 0, 0, 0), 2);
        Check.tell(x, 1, "worth 9;");
        c.due("worth of a text told anew", x.worth(0, 0, 0, 0), 9);
    }

    private static void noSuchWant(Check c) {
        for (int k : new int[] {-1, 4, MIN, MAX}) {
            TurnedIsland x = new TurnedIsland();
            Check.tell(x, 0, "worth");
            c.due("a fault ahead", x.fault(0), 1);
            Check.feed(x, "worth");
            c.due("text(" + k + ")", x.text(k), -1);
            c.due("fault(0)", x.fault(0), 0);
            c.due("fault(1)", x.fault(1), -1);
            c.no("the tape is empty then", x.end(1));
            for (int want = 0; want < 4; want++) {
                c.due("no want has lines", x.look(10 + want), 0);
            }
        }
    }

    private static void textWithAFault(Check c) {
        for (int k = 0; k < 4; k++) {
            TurnedIsland x = new TurnedIsland();
            Check.tell(x, k, "worth 3 when day<5;worth 2;");
            x.plot(0, 1, k, 0);
            for (String text : new String[] {"worth 9;worth x;", "worth 9/0;", "worth 9;".repeat(17), "worth 9"}) {
                c.due("text(" + k + ")", Check.tell(x, k, text), -1);
                c.no("the tape is empty then", x.end(1));
                c.due("its lines", x.look(10 + k), 2);
                c.due("its worth", x.worth(0, 4, 0, 0), 5);
                c.due("its worth on another day", x.worth(0, 5, 0, 0), 2);
            }
        }
    }

    private static void faultTold(Check c) {
        TurnedIsland x = new TurnedIsland();
        c.due("ahead of any text", x.fault(0), 0);
        Check.tell(x, 0, "worth");
        c.due("1", x.fault(0), 1);
        c.due("once more", x.fault(0), 1);
        Check.tell(x, 1, "worth 1/0;");
        c.due("2", x.fault(0), 2);
        Check.tell(x, 2, "worth 1;".repeat(17));
        c.due("3", x.fault(0), 3);
        x.feed(0, 0, 0, 0, 0);
        x.end(0);
        c.due("still of the latest text", x.fault(0), 3);
        x.text(3);
        c.due("0 without one", x.fault(0), 0);
    }

    private static void faultPlace(Check c) {
        TurnedIsland x = new TurnedIsland();
        c.due("ahead of any text", x.fault(1), -1);
        Check.tell(x, 0, "!");
        c.due("place 0", x.fault(1), 0);
        Check.tell(x, 0, " ".repeat(399) + "!");
        c.due("place 399", x.fault(1), 399);
        Check.tell(x, 0, "worth" + " ".repeat(395));
        c.due("the end of 400", x.fault(1), 400);
        Check.tell(x, 0, "worth 1;");
        c.due("NONE without one", x.fault(1), -1);
    }

    private static void faultOfAnotherWhat(Check c) {
        TurnedIsland x = new TurnedIsland();
        Check.tell(x, 0, "worth 1/0;");
        for (int what : new int[] {-1, 2, 3, MIN, MAX}) {
            c.due("fault(" + what + ")", x.fault(what), -1);
        }
    }

    private static void worthTold(Check c) {
        TurnedIsland x = new TurnedIsland();
        Check.tell(x, 0, "worth day when turned=0;worth 100*angle when turned=1;");
        x.plot(0, 1, 0, 0);
        c.due("the first day", x.worth(0, 0, 0, 0), 0);
        c.due("the last day", x.worth(0, 9999, 0, 0), 9999);
        c.due("the last angle", x.worth(0, 0, 11, 1), 1100);
        c.due("a turn back", x.worth(0, 0, 11, -1), 1100);
        c.due("days gone too", x.set(1, 500) ? x.worth(0, 3, 0, 0) : -1, 3);
        c.due("nothing is changed", x.look(2), 500);
    }

    private static void worthRefused(Check c) {
        TurnedIsland x = new TurnedIsland();
        Check.tell(x, 0, "worth 3;");
        x.plot(0, 1, 0, 0);
        int[][] wrong = {{-1, 0, 0, 0}, {1, 0, 0, 0}, {MAX, 0, 0, 0}, {MIN, 0, 0, 0}, {0, -1, 0, 0}, {0, 10000, 0, 0},
            {0, MAX, 0, 0}, {0, MIN, 0, 0}, {0, 0, -1, 0}, {0, 0, 12, 0}, {0, 0, MAX, 0}, {0, 0, MIN, 0}, {0, 0, 0, -2},
            {0, 0, 0, 2}, {0, 0, 0, MAX}, {0, 0, 0, MIN}};
        for (int[] w : wrong) {
            c.due("worth(" + w[0] + ", " + w[1] + ", " + w[2] + ", " + w[3] + ")", x.worth(w[0], w[1], w[2], w[3]),
                    -100000);
        }
    }

    private static void sold(Check c) {
        TurnedIsland x = Check.island(2);
        c.yes("a sale", x.sell(0, 1, 0, 9999, 9999));
        c.due("sales", x.look(6), 1);
        c.due("holder", x.holder(0, 9999), 1);
        c.due("coin of the owner", x.of(0, 3), 9999);
        c.due("coin of the buyer", x.of(1, 3), -9999);
    }

    /** A sale that is refused, on an island of three plots on day 10. */
    private static void refusedSale(Check c, int plot, int to, int from, int until, int price) {
        TurnedIsland x = Check.island(3);
        x.set(1, 10);
        c.yes("a sale ahead", x.sell(0, 1, 50, 60, 5));
        c.no("sell(" + plot + ", " + to + ", " + from + ", " + until + ", " + price + ")",
                x.sell(plot, to, from, until, price));
        c.due("sales", x.look(6), 1);
        int[] coins = {5, -5, 0};
        for (int p = 0; p < 3; p++) {
            c.due("coin of " + p, x.of(p, 3), coins[p]);
        }
    }

    private static void notSold(Check c) {
        refusedSale(c, -1, 0, 10, 10, 7);
        refusedSale(c, 3, 0, 10, 10, 7);
        refusedSale(c, MAX, 0, 10, 10, 7);
        refusedSale(c, MIN, 0, 10, 10, 7);
        refusedSale(c, 0, -1, 10, 10, 7);
        refusedSale(c, 0, 3, 10, 10, 7);
        refusedSale(c, 0, MAX, 10, 10, 7);
        refusedSale(c, 0, MIN, 10, 10, 7);
        refusedSale(c, 0, 1, 10, 10, -1);
        refusedSale(c, 0, 1, 10, 10, 10000);
        refusedSale(c, 0, 1, 10, 10, MAX);
        refusedSale(c, 0, 1, 10, 10, MIN);
    }

    private static void notSoldToHimself(Check c) {
        for (int p = 0; p < 3; p++) {
            refusedSale(c, p, p, 10, 10, 7);
        }
    }

    private static void notSoldOnDaysGone(Check c) {
        refusedSale(c, 0, 1, 9, 9, 7);
        refusedSale(c, 0, 1, 9, 10, 7);
        refusedSale(c, 0, 1, 0, 10, 7);
        refusedSale(c, 0, 1, -1, 10, 7);
        refusedSale(c, 0, 1, MIN, 10, 7);
        TurnedIsland x = Check.island(2);
        c.no("a day below 0", x.sell(0, 1, -1, 0, 0));
        c.yes("day 0", x.sell(0, 1, 0, 0, 0));
        x.noons(1);
        c.yes("today", x.sell(1, 0, 1, 1, 0));
        c.no("what was today", x.sell(1, 0, 0, 0, 0));
    }

    private static void notSoldAbove9999(Check c) {
        refusedSale(c, 0, 1, 10000, 10000, 7);
        refusedSale(c, 0, 1, 9999, 10000, 7);
        refusedSale(c, 0, 1, 70, MAX, 7);
        refusedSale(c, 0, 1, MAX, MAX, 7);
        TurnedIsland x = Check.island(2);
        c.yes("day 9999", x.sell(0, 1, 9999, 9999, 0));
    }

    private static void notSoldTwice(Check c) {
        refusedSale(c, 0, 1, 50, 50, 7);
        refusedSale(c, 0, 2, 60, 60, 7);
        refusedSale(c, 0, 2, 49, 50, 7);
        refusedSale(c, 0, 2, 60, 61, 7);
        refusedSale(c, 0, 2, 49, 61, 7);
        refusedSale(c, 0, 2, 55, 55, 7);
        TurnedIsland x = Check.island(3);
        x.sell(0, 1, 50, 60, 5);
        c.yes("the day ahead", x.sell(0, 2, 49, 49, 0));
        c.yes("the day behind", x.sell(0, 2, 61, 61, 0));
        c.yes("the same days of another plot", x.sell(2, 1, 50, 60, 0));
        c.yes("the buyer's own on these days", x.sell(1, 0, 50, 60, 0));
    }

    private static void notSoldToAheadOfFrom(Check c) {
        refusedSale(c, 0, 1, 11, 10, 7);
        refusedSale(c, 0, 1, 9999, 10, 7);
        refusedSale(c, 0, 1, 11, MIN, 7);
        TurnedIsland x = Check.island(2);
        c.yes("a single day", x.sell(0, 1, 11, 11, 0));
    }

    private static void sixtySales(Check c) {
        TurnedIsland x = Check.island(2);
        for (int s = 1; s <= 60; s++) {
            c.yes("sale " + s, x.sell(0, 1, 2 * s, 2 * s, 1));
        }
        c.no("sale 61", x.sell(0, 1, 1, 1, 1));
        c.no("sale 61 of another plot", x.sell(1, 0, 1, 1, 1));
        c.due("sales", x.look(6), 60);
        c.due("coin", x.of(0, 3), 60);
        c.due("day 1 isn't sold", x.holder(0, 1), 0);
        c.due("day 120 is", x.holder(0, 120), 1);
    }

    private static void promised(Check c) {
        TurnedIsland x = Check.island(2);
        c.due("the first", x.promise(1, -1, 0, 9999), 0);
        c.due("the second", x.promise(0, 0, 5, 5), 1);
        c.due("one like it", x.promise(0, 0, 5, 5), 2);
        x.set(1, 100);
        c.due("for days gone", x.promise(0, 1, 0, 99), 3);
        c.due("promises told", x.look(7), 4);
        c.due("the vote of 1", x.votes(1), 1);
    }

    private static void refusedPromise(Check c, int owner, int turn, int from, int until) {
        TurnedIsland x = Check.island(2);
        x.promise(0, 1, 0, 0);
        c.due("promise(" + owner + ", " + turn + ", " + from + ", " + until + ")", x.promise(owner, turn, from, until),
                -1);
        c.due("promises told", x.look(7), 1);
        c.due("the next has number 1", x.promise(0, 1, 0, 0), 1);
    }

    private static void notPromised(Check c) {
        refusedPromise(c, -1, 0, 0, 0);
        refusedPromise(c, 2, 0, 0, 0);
        refusedPromise(c, MAX, 0, 0, 0);
        refusedPromise(c, MIN, 0, 0, 0);
        refusedPromise(c, 0, -2, 0, 0);
        refusedPromise(c, 0, 2, 0, 0);
        refusedPromise(c, 0, MAX, 0, 0);
        refusedPromise(c, 0, MIN, 0, 0);
    }

    private static void notPromisedForSuchDays(Check c) {
        refusedPromise(c, 0, 0, 1, 0);
        refusedPromise(c, 0, 0, 9999, 9998);
        refusedPromise(c, 0, 0, -1, 0);
        refusedPromise(c, 0, 0, -1, -1);
        refusedPromise(c, 0, 0, MIN, 0);
        refusedPromise(c, 0, 0, 0, 10000);
        refusedPromise(c, 0, 0, 10000, 10000);
        refusedPromise(c, 0, 0, 0, MAX);
        TurnedIsland x = Check.island(1);
        c.due("the first day", x.promise(0, 1, 0, 0), 0);
        c.due("the last day", x.promise(0, 1, 9999, 9999), 1);
        c.due("all days", x.promise(0, 1, 0, 9999), 2);
    }

    private static void promises24(Check c) {
        TurnedIsland x = Check.island(4);
        for (int p = 0; p < 24; p++) {
            c.due("promise", x.promise(p % 3, 1, p, p), p);
        }
        c.due("the 25th, of one who has none", x.promise(3, 1, 0, 0), -1);
        c.due("the 25th, of one who has eight", x.promise(0, 1, 0, 0), -1);
        c.due("promises told", x.look(7), 24);
        c.due("no vote came of it", x.votes(3), 2);
    }

    private static void tenOfThatOwner(Check c) {
        TurnedIsland x = Check.island(2);
        for (int p = 0; p < 10; p++) {
            c.due("promise", x.promise(1, 1, 5, 5), p);
        }
        c.due("an eleventh", x.promise(1, 1, 0, 0), -1);
        c.due("promises told", x.look(7), 10);
        c.due("no vote came of it", x.votes(1), 2);
        c.due("another's first", x.promise(0, 1, 0, 0), 10);
        c.due("still an eleventh", x.promise(1, 1, 0, 0), -1);
    }

    private static void dropped(Check c) {
        TurnedIsland x = Check.island(1);
        x.promise(0, 1, 0, 9);
        x.promise(0, -1, 0, 9);
        c.yes("drop(0)", x.drop(0));
        c.due("the other holds", x.votes(0), 1);
        c.yes("drop(1)", x.drop(1));
        c.due("none holds", x.votes(0), 2);
        c.due("two were told", x.look(7), 2);
        c.due("the next has number 2", x.promise(0, 1, 0, 9), 2);
        c.due("and holds", x.votes(0), 3);
    }

    private static void notDropped(Check c) {
        TurnedIsland x = Check.island(1);
        c.no("drop(0) without any", x.drop(0));
        x.promise(0, 1, 0, 9);
        for (int p : new int[] {-1, 1, 24, 31, 32, -32, MIN, MAX}) {
            c.no("drop(" + p + ")", x.drop(p));
            c.due("the promise holds", x.votes(0), 3);
        }
        c.yes("drop(0)", x.drop(0));
        c.no("drop(0) once more", x.drop(0));
    }

    private static void votes(Check c) {
        TurnedIsland x = Check.island(2);
        for (int turn = -1; turn <= 1; turn++) {
            int p = x.promise(0, turn, 0, 0);
            c.due("vote for " + turn, x.votes(0), turn + 2);
            x.drop(p);
        }
        x.promise(1, -1, 0, 0);
        x.sell(0, 1, 0, 0, 0);
        c.due("the holder's vote", x.votes(0), 1);
        c.due("nothing is done", x.look(2), 0);
        x.noons(1);
        c.due("now is another day", x.votes(0), 2);
        x.set(1, 9999);
        c.due("the last day", x.votes(0), 2);
    }

    private static void noVotes(Check c) {
        TurnedIsland x = Check.island(1);
        for (int p : new int[] {-1, 1, 10, MIN, MAX}) {
            c.due("votes(" + p + ")", x.votes(p), -1);
        }
        TurnedIsland y = Check.island(10);
        c.due("votes(9)", y.votes(9), 2);
        c.due("votes(10)", y.votes(10), -1);
    }

    private static void holder(Check c) {
        TurnedIsland x = Check.island(3);
        x.sell(0, 2, 1, 1, 0);
        x.sell(0, 1, 2, 2, 0);
        x.sell(2, 1, 1, 1, 0);
        int[] due = {0, 2, 1, 0};
        for (int day = 0; day < 4; day++) {
            c.due("holder of 0 on day " + day, x.holder(0, day), due[day]);
        }
        c.due("a vote isn't handed on", x.holder(0, 1), 2);
        x.set(1, 500);
        c.due("on a day gone", x.holder(0, 2), 1);
        c.due("on the last day", x.holder(0, 9999), 0);
    }

    private static void noHolder(Check c) {
        TurnedIsland x = Check.island(1);
        int[][] wrong = {{-1, 0}, {1, 0}, {MAX, 0}, {MIN, 0}, {0, -1}, {0, 10000}, {0, MAX}, {0, MIN}};
        for (int[] w : wrong) {
            c.due("holder(" + w[0] + ", " + w[1] + ")", x.holder(w[0], w[1]), -1);
        }
    }

    private static void noonsMade(Check c) {
        TurnedIsland x = Check.island(1);
        x.promise(0, 1, 2, 3);
        x.promise(0, -1, 5, 5);
        x.promise(0, 1, 8, 200);
        c.due("one", x.noons(1), 0);
        c.due("six more", x.noons(6), 3);
        c.due("400, of which 96 have grease", x.noons(400), 96);
        c.due("day", x.look(2), 407);
        c.due("none is made any more", x.noons(400), 0);
    }

    private static void noonsRefused(Check c) {
        for (int n : new int[] {0, -1, 401, MIN, MAX}) {
            TurnedIsland x = Check.island(1);
            x.promise(0, 1, 0, 9999);
            x.noons(2);
            c.due("noons(" + n + ")", x.noons(n), -1);
            c.due("day", x.look(2), 2);
            c.due("angle", x.look(1), 2);
            c.due("grease", x.look(3), 97);
            c.due("what can be undone", x.look(9), 2);
        }
    }

    private static void noonsBeyond(Check c) {
        TurnedIsland x = Check.island(1);
        x.promise(0, 1, 0, 9999);
        x.set(1, 9990);
        c.due("ten from 9990", x.noons(10), -1);
        c.due("day", x.look(2), 9990);
        c.due("angle", x.look(1), 0);
        c.due("nothing can be undone", x.look(9), 0);
        c.due("nine from 9990", x.noons(9), 9);
        c.due("day", x.look(2), 9999);
        c.due("the turn of 9998", x.turned(9998), 3);
        c.due("one from 9999", x.noons(1), -1);
        c.due("400 from 9999", x.noons(400), -1);
        x.set(1, 9599);
        c.due("400 from 9599", x.noons(400) >= 0, true);
        x.set(1, 9600);
        c.due("400 from 9600", x.noons(400), -1);
    }
}
