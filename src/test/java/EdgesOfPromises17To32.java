/** Promises 17 to 32: what is reckoned and looked at, and what goes back. */
final class EdgesOfPromises17To32 {
    private static final int MIN = Integer.MIN_VALUE;
    private static final int MAX = Integer.MAX_VALUE;

    private EdgesOfPromises17To32() {
    }

    static void all(Edges e) {
        e.promise(17);
        e.edge("Of a PLOT what 0 PLACE, 1 WEIGHT, 2 WANT, 3 COIN, 4 the angle where it stands, 5 PIVOTS, 6 SWINGS.",
                EdgesOfPromises17To32::of);
        e.edge("NONE - 99999 if there is none such,", EdgesOfPromises17To32::ofNoneSuch);
        e.edge("or another what.", EdgesOfPromises17To32::ofAnotherWhat);
        e.promise(18);
        e.edge("The turn made on a DAY and 2 (1, 2, 3);", EdgesOfPromises17To32::turned);
        e.edge("NONE if it is not kept.", EdgesOfPromises17To32::turnNotKept);
        reckoned(e);
        sea(e);
        e.promise(30);
        e.edge("UNDO: true;", EdgesOfPromises17To32::undone);
        e.edge("false if there is nothing.", EdgesOfPromises17To32::nothingToUndo);
        e.promise(31);
        e.edge("THE IMAGE is taken (true), or gone back to (false): true;", EdgesOfPromises17To32::image);
        e.edge("false if there is none.", EdgesOfPromises17To32::noImage);
        e.promise(32);
        e.edge("What 0 NOTCHES, 1 ANGLE, 2 DAY, 3 GREASE, 4 PULL, 5 PLOTS, 6 SALES, 7 PROMISES told, 8 LOGS,"
                + " 9 what can be undone,", EdgesOfPromises17To32::look);
        e.edge("10 + k lines of WANT k,", EdgesOfPromises17To32::lookLines);
        e.edge("20 + p PAYMENT of one.", EdgesOfPromises17To32::lookPayments);
        e.edge("NONE - 99999 for another what.", EdgesOfPromises17To32::lookAnotherWhat);
    }

    private static void reckoned(Edges e) {
        e.promise(19);
        e.edge("BEST TURNS for m DAYS what 0 WORTH, 10 + i the turn of the i-th and 2.", EdgesOfPromises17To32::best);
        e.edge("NONE - 999999 if one can't be,", EdgesOfPromises17To32::noBest);
        e.edge("or another what.", EdgesOfPromises17To32::bestOfAnotherWhat);
        e.promise(20);
        e.edge("FAIR TURNS, likewise: what 0 the WORTH to the one who has least, 1 together, 10 + i.",
                EdgesOfPromises17To32::fair);
        e.edge("(0, 0 without PLOTS.)", EdgesOfPromises17To32::fairWithoutPlots);
        e.promise(21);
        e.edge("ALONE for m DAYS;", EdgesOfPromises17To32::alone);
        e.edge("NONE - 999999 if one can't be", EdgesOfPromises17To32::notAlone);
        e.edge("(an empty set,", EdgesOfPromises17To32::emptySet);
        e.edge("one not there).", EdgesOfPromises17To32::oneNotThere);
        e.promise(22);
        e.edge("A PAYMENT is told: true;", EdgesOfPromises17To32::paid);
        e.edge("false if one can't be.", EdgesOfPromises17To32::notPaid);
        e.promise(23);
        e.edge("LEAVE for m DAYS (1 .. 6), as a set;", EdgesOfPromises17To32::leave);
        e.edge("NONE if none would,", EdgesOfPromises17To32::noneWouldLeave);
        e.edge("or one can't be.", EdgesOfPromises17To32::leaveOfSuchDays);
        e.promise(24);
        e.edge("FIRST (NONE: none quarrels;", EdgesOfPromises17To32::noneQuarrels);
        e.edge("DROPPED ones are none any more).", EdgesOfPromises17To32::droppedDontQuarrel);
        e.promise(25);
        e.edge("FEWEST of an owner, as a set of PROMISES;", EdgesOfPromises17To32::fewest);
        e.edge("NONE if there is none such.", EdgesOfPromises17To32::fewestOfNone);
    }

    private static void sea(Edges e) {
        e.promise(26);
        e.edge("A PLAN for DAY i from now: true;", EdgesOfPromises17To32::planned);
        e.edge("false if one can't be.", EdgesOfPromises17To32::notPlanned);
        e.promise(27);
        e.edge("A BOAT: how many DAYS from now it may leave;", EdgesOfPromises17To32::boat);
        e.edge("NONE if none,", EdgesOfPromises17To32::noBoat);
        e.edge("or one can't be.", EdgesOfPromises17To32::boatRefused);
        e.promise(28);
        e.edge("A LOG: true;", EdgesOfPromises17To32::logged);
        e.edge("false if one can't be,", EdgesOfPromises17To32::notLogged);
        e.edge("or there are forty.", EdgesOfPromises17To32::fortyLogs);
        e.promise(29);
        e.edge("TURNS TOLD BACK for the DAYS a .. b what 0 how many,", EdgesOfPromises17To32::back);
        e.edge("1 the ANGLE at first (NONE),", EdgesOfPromises17To32::backAngle);
        e.edge("10 + i the turn of the i-th DAY and 2 (NONE).", EdgesOfPromises17To32::backTurns);
        e.edge("NONE if one can't be,", EdgesOfPromises17To32::backRefused);
        e.edge("or another what.", EdgesOfPromises17To32::backOfAnotherWhat);
    }

    private static TurnedIsland oneWant(String text) {
        TurnedIsland x = new TurnedIsland();
        Check.tell(x, 0, text);
        x.plot(0, 1, 0, 0);
        return x;
    }

    private static void of(Check c) {
        TurnedIsland x = new TurnedIsland();
        x.notches(5);
        x.plot(4, 9, 4, -99999);
        x.plot(0, 1, 0, 99999);
        x.set(0, 3);
        int[][] due = {{4, 9, 4, -99999, 2, 2, 2}, {0, 1, 0, 99999, 3, 0, 0}};
        for (int p = 0; p < 2; p++) {
            for (int what = 0; what <= 6; what++) {
                c.due("of(" + p + ", " + what + ")", x.of(p, what), due[p][what]);
            }
        }
    }

    private static void ofNoneSuch(Check c) {
        TurnedIsland x = Check.island(1);
        for (int p : new int[] {-1, 1, 10, MIN, MAX}) {
            for (int what = 0; what <= 6; what++) {
                c.due("of(" + p + ", " + what + ")", x.of(p, what), -100000);
            }
        }
    }

    private static void ofAnotherWhat(Check c) {
        TurnedIsland x = Check.island(1);
        for (int what : new int[] {-1, 7, 8, MIN, MAX}) {
            c.due("of(0, " + what + ")", x.of(0, what), -100000);
        }
    }

    private static void turned(Check c) {
        TurnedIsland x = Check.island(1);
        x.promise(0, -1, 0, 0);
        x.promise(0, 1, 2, 2);
        x.noons(3);
        for (int day = 0; day < 3; day++) {
            c.due("turned(" + day + ")", x.turned(day), day + 1);
        }
        TurnedIsland y = Check.island(1);
        y.set(1, 9998);
        y.noons(1);
        c.due("turned(9998)", y.turned(9998), 2);
    }

    private static void turnNotKept(Check c) {
        TurnedIsland x = Check.island(1);
        c.due("turned(0) ahead of a noon", x.turned(0), -1);
        x.noons(3);
        for (int day : new int[] {-1, 3, 4, 9999, 10000, 409, 410, MIN, MAX}) {
            c.due("turned(" + day + ")", x.turned(day), -1);
        }
        x.set(1, 100);
        x.noons(1);
        c.due("the day ahead of the one told", x.turned(99), -1);
        c.due("the day told", x.turned(100), 2);
        c.due("the day behind it", x.turned(101), -1);
        x.undo();
        c.due("a day undone", x.turned(100), -1);
        x.noons(400);
        c.due("the first of 400", x.turned(100), 2);
        x.noons(1);
        c.due("the first of 401", x.turned(100), -1);
        c.due("the second of 401", x.turned(101), 2);
    }

    private static void best(Check c) {
        TurnedIsland x = oneWant("worth 4 when angle=11;");
        c.due("one day", x.best(1, 0), 4);
        c.due("its turn", x.best(1, 10), 1);
        c.due("thirty days", x.best(30, 0), 120);
        c.due("the first turn", x.best(30, 10), 1);
        for (int i = 1; i < 30; i++) {
            c.due("turn " + i, x.best(30, 10 + i), 2);
        }
        c.due("nothing is done", x.look(2), 0);
        x.set(1, 9999);
        c.due("days beyond the last are reckoned on", x.best(30, 0), 120);
    }

    private static void noBest(Check c) {
        TurnedIsland x = oneWant("worth 1;");
        for (int m : new int[] {0, 31, -1, MIN, MAX}) {
            c.due("best(" + m + ", 0)", x.best(m, 0), -1000000);
            c.due("best(" + m + ", 10)", x.best(m, 10), -1000000);
        }
    }

    private static void bestOfAnotherWhat(Check c) {
        TurnedIsland x = oneWant("worth 1;");
        int[][] wrong = {{3, -1}, {3, 1}, {3, 2}, {3, 9}, {3, 13}, {1, 11}, {30, 40}, {30, MIN}, {30, MAX}};
        for (int[] w : wrong) {
            c.due("best(" + w[0] + ", " + w[1] + ")", x.best(w[0], w[1]), -1000000);
        }
    }

    private static void fair(Check c) {
        TurnedIsland x = oneWant("worth 4 when angle=11;");
        Check.tell(x, 1, "worth 6;");
        x.plot(0, 1, 1, 0);
        c.due("least of one day", x.fair(1, 0), 4);
        c.due("together", x.fair(1, 1), 10);
        c.due("its turn", x.fair(1, 10), 1);
        c.due("least of six days", x.fair(6, 0), 24);
        c.due("together", x.fair(6, 1), 60);
        c.due("the first turn", x.fair(6, 10), 1);
        for (int i = 1; i < 6; i++) {
            c.due("turn " + i, x.fair(6, 10 + i), 2);
        }
        int[][] wrong = {{0, 0}, {7, 0}, {-1, 0}, {MIN, 0}, {MAX, 0}, {0, 1}, {7, 1}, {0, 10}, {7, 10}, {3, -1}, {3, 2},
            {3, 9}, {3, 13}, {1, 11}, {6, 16}, {6, MIN}, {6, MAX}};
        for (int[] w : wrong) {
            c.due("fair(" + w[0] + ", " + w[1] + ")", x.fair(w[0], w[1]), -1000000);
        }
    }

    private static void fairWithoutPlots(Check c) {
        TurnedIsland x = new TurnedIsland();
        for (int m = 1; m <= 6; m++) {
            c.due("least of " + m, x.fair(m, 0), 0);
            c.due("together of " + m, x.fair(m, 1), 0);
            c.due("the last turn of " + m, x.fair(m, 9 + m), 2);
        }
        // Also when there were plots ahead.
        TurnedIsland y = oneWant("worth 5;");
        c.due("with a plot", y.fair(2, 0), 10);
        y.notches(12);
        c.due("least without it", y.fair(2, 0), 0);
        c.due("together without it", y.fair(2, 1), 0);
        c.due("without plots seven days can't be either", y.fair(7, 0), -1000000);
    }

    private static void alone(Check c) {
        TurnedIsland x = oneWant("worth 4 when angle=11;worth 1;");
        Check.tell(x, 1, "worth turned+1;");
        x.plot(0, 1, 1, 0);
        c.due("one of two, one day", x.alone(1, 1), 1);
        c.due("the other of two, one day", x.alone(2, 1), 1);
        c.due("both, one day", x.alone(3, 1), 7);
        c.due("one of two, six days", x.alone(1, 6), 6);
        c.due("both, six days", x.alone(3, 6), 37);
        TurnedIsland y = Check.island(10);
        c.due("all ten", y.alone(1023, 6), 0);
        c.due("the last of ten", y.alone(512, 6), 0);
    }

    private static void notAlone(Check c) {
        TurnedIsland x = Check.island(2);
        for (int m : new int[] {0, 7, -1, MIN, MAX}) {
            c.due("alone(1, " + m + ")", x.alone(1, m), -1000000);
        }
    }

    private static void emptySet(Check c) {
        TurnedIsland x = Check.island(2);
        c.due("alone(0, 1)", x.alone(0, 1), -1000000);
        c.due("alone(0, 1) without plots", new TurnedIsland().alone(0, 1), -1000000);
    }

    private static void oneNotThere(Check c) {
        TurnedIsland x = Check.island(2);
        for (int set : new int[] {4, 5, 6, 7, 8, 512, 1024, 1025, -1, -4, MIN, MAX}) {
            c.due("alone(" + set + ", 1)", x.alone(set, 1), -1000000);
        }
        c.due("both are there", x.alone(3, 1), 0);
        TurnedIsland y = Check.island(10);
        c.due("an eleventh", y.alone(1024, 1), -1000000);
        c.due("an eleventh with all", y.alone(2047, 1), -1000000);
    }

    private static void paid(Check c) {
        TurnedIsland x = Check.island(2);
        c.yes("most", x.pay(0, 99999));
        c.yes("least", x.pay(1, -99999));
        c.due("of 0", x.look(20), 99999);
        c.due("of 1", x.look(21), -99999);
        c.yes("told anew", x.pay(0, 0));
        c.due("of 0", x.look(20), 0);
        c.due("no coin of it", x.of(1, 3), 0);
    }

    private static void notPaid(Check c) {
        TurnedIsland x = Check.island(2);
        x.pay(0, 5);
        x.pay(1, 6);
        int[][] wrong = {{-1, 0}, {2, 0}, {MAX, 0}, {MIN, 0}, {0, 100000}, {0, -100000}, {0, MAX}, {0, MIN}};
        for (int[] w : wrong) {
            c.no("pay(" + w[0] + ", " + w[1] + ")", x.pay(w[0], w[1]));
        }
        c.due("of 0", x.look(20), 5);
        c.due("of 1", x.look(21), 6);
    }

    private static void leave(Check c) {
        for (int p = 0; p < 10; p++) {
            TurnedIsland x = Check.island(10);
            x.pay(p, -1);
            c.due("one of ten in one day", x.leave(1), 1 << p);
            c.due("one of ten in six days", x.leave(6), 1 << p);
        }
        TurnedIsland x = oneWant("worth 3 when angle=1;");
        x.plot(0, 1, 4, 0);
        // By best turns the first has 3, the second 0; alone each may be left 0, both have 3.
        x.pay(0, -1);
        c.due("two as a set", x.leave(1), 3);
    }

    private static void noneWouldLeave(Check c) {
        c.due("without plots", new TurnedIsland().leave(3), -1);
        TurnedIsland x = Check.island(10);
        c.due("without payments", x.leave(6), -1);
        x.pay(9, 1);
        c.due("with one that is more than 0", x.leave(6), -1);
    }

    private static void leaveOfSuchDays(Check c) {
        TurnedIsland x = Check.island(2);
        x.pay(0, -1);
        for (int m : new int[] {0, 7, -1, MIN, MAX}) {
            c.due("leave(" + m + ")", x.leave(m), -1);
        }
        c.due("leave(1)", x.leave(1), 1);
        c.due("leave(6)", x.leave(6), 1);
    }

    private static void noneQuarrels(Check c) {
        TurnedIsland x = Check.island(2);
        c.due("without promises", x.quarrel(), -1);
        x.promise(0, 1, 0, 9);
        x.promise(1, -1, 0, 9);
        c.due("with two of unlike owners", x.quarrel(), -1);
        x.promise(0, -1, 9, 9);
        c.due("with one more", x.quarrel(), 2);
    }

    private static void droppedDontQuarrel(Check c) {
        TurnedIsland x = Check.island(1);
        x.promise(0, 1, 0, 9);
        x.promise(0, -1, 0, 9);
        x.promise(0, 0, 0, 9);
        c.due("all three", x.quarrel(), 1);
        x.drop(1);
        c.due("the first and the third", x.quarrel(), 2);
        x.drop(0);
        c.due("the third alone", x.quarrel(), -1);
    }

    private static void fewest(Check c) {
        TurnedIsland x = Check.island(2);
        x.promise(1, 1, 0, 9);
        x.promise(0, 1, 0, 9);
        x.promise(0, -1, 0, 4);
        x.promise(0, -1, 5, 9);
        c.due("promise 1 as a set", x.fewest(0), 2);
        c.due("the empty set", x.fewest(1), 0);
        x.drop(2);
        c.due("of 1 and 3", x.fewest(0), 2);
        x.drop(1);
        c.due("none is left to quarrel", x.fewest(0), 0);
    }

    private static void fewestOfNone(Check c) {
        TurnedIsland x = Check.island(2);
        for (int owner : new int[] {-1, 2, 10, MIN, MAX}) {
            c.due("fewest(" + owner + ")", x.fewest(owner), -1);
        }
        c.due("fewest(1)", x.fewest(1), 0);
    }

    private static void planned(Check c) {
        TurnedIsland x = Check.island(1);
        c.yes("plan(0, 1)", x.plan(0, 1));
        c.yes("plan(59, -1)", x.plan(59, -1));
        c.due("the first day's", x.boat(0, 0, 1), 0);
        c.due("the last day's", x.boat(0, 0, 0), 59);
        c.yes("plan(0, 0)", x.plan(0, 0));
        c.due("told anew", x.boat(0, 0, 0), 0);
        c.due("the island is not turned", x.look(1), 0);
        x.noons(1);
        c.due("nor by a noon", x.look(1), 0);
    }

    private static void notPlanned(Check c) {
        TurnedIsland x = Check.island(1);
        int[][] wrong = {{-1, 1}, {60, 1}, {MAX, 1}, {MIN, 1}, {0, 2}, {0, -2}, {0, MAX}, {0, MIN}};
        for (int[] w : wrong) {
            c.no("plan(" + w[0] + ", " + w[1] + ")", x.plan(w[0], w[1]));
        }
        for (int angle = 1; angle < 12; angle++) {
            c.due("nothing is planned", x.boat(0, 0, angle), -1);
        }
    }

    private static void boat(Check c) {
        TurnedIsland x = Check.island(1);
        x.plan(20, 1);
        c.due("0 days", x.boat(0, 0, 1), 20);
        c.due("20 days", x.boat(0, 20, 1), 0);
        c.due("59 days", x.boat(0, 59, 1), 0);
        c.due("to where it is now", x.boat(0, 0, 0), 0);
        c.due("to where it is until then", x.boat(0, 19, 0), 0);
    }

    private static void noBoat(Check c) {
        TurnedIsland x = Check.island(1);
        x.plan(20, 1);
        c.due("never there", x.boat(0, 0, 2), -1);
        c.due("too late", x.boat(0, 20, 0), -1);
    }

    private static void boatRefused(Check c) {
        TurnedIsland x = Check.island(1);
        int[][] wrong = {{-1, 0, 0}, {1, 0, 0}, {MAX, 0, 0}, {MIN, 0, 0}, {0, -1, 0}, {0, 60, 0}, {0, MAX, 0},
            {0, MIN, 0}, {0, 0, -1}, {0, 0, 12}, {0, 0, MAX}, {0, 0, MIN}};
        for (int[] w : wrong) {
            c.due("boat(" + w[0] + ", " + w[1] + ", " + w[2] + ")", x.boat(w[0], w[1], w[2]), -1);
        }
    }

    private static void logged(Check c) {
        TurnedIsland x = Check.island(1);
        c.yes("the first day", x.log(0, 0, 0));
        c.yes("the last day", x.log(9999, 0, 11));
        c.yes("one against the first", x.log(0, 0, 1));
        c.due("logs", x.look(8), 3);
        c.due("rows of the last day", x.back(9999, 9999, 0), 3);
        c.due("rows of the first day", x.back(0, 0, 0), 0);
    }

    private static void notLogged(Check c) {
        TurnedIsland x = Check.island(1);
        int[][] wrong = {{-1, 0, 0}, {10000, 0, 0}, {MAX, 0, 0}, {MIN, 0, 0}, {0, -1, 0}, {0, 1, 0}, {0, MAX, 0},
            {0, MIN, 0}, {0, 0, -1}, {0, 0, 12}, {0, 0, MAX}, {0, 0, MIN}};
        for (int[] w : wrong) {
            c.no("log(" + w[0] + ", " + w[1] + ", " + w[2] + ")", x.log(w[0], w[1], w[2]));
        }
        c.due("logs", x.look(8), 0);
        c.due("rows", x.back(0, 0, 0), 36);
    }

    private static void fortyLogs(Check c) {
        TurnedIsland x = Check.island(1);
        for (int i = 1; i <= 40; i++) {
            c.yes("log " + i, x.log(100, 0, 3));
        }
        c.no("log 41", x.log(101, 0, 3));
        c.due("logs", x.look(8), 40);
        c.due("rows of the 41st's day", x.back(101, 101, 0), 36);
    }

    private static void back(Check c) {
        TurnedIsland x = Check.island(1);
        c.due("one day", x.back(0, 0, 0), 36);
        c.due("two days", x.back(0, 1, 0), 108);
        c.due("the last day", x.back(9999, 9999, 0), 36);
        c.due("forty days", x.back(0, 39, 0), 100000000000000000L);
        x.log(0, 0, 0);
        c.due("33 days from one angle", x.back(0, 32, 0), 5559060566555523L);
        x.log(0, 0, 1);
        c.due("none", x.back(0, 32, 0), 0);
    }

    private static void backAngle(Check c) {
        TurnedIsland x = Check.island(1);
        c.due("any: the first", x.back(0, 0, 1), 0);
        x.log(0, 0, 11);
        c.due("0, from which 11 is one back", x.back(0, 0, 1), 0);
        x.log(1, 0, 10);
        c.due("0 still", x.back(0, 1, 1), 0);
        c.due("9, from which 10 is one on", x.back(1, 1, 1), 9);
        x.log(1, 0, 11);
        c.due("none", x.back(0, 1, 1), -1);
    }

    private static void backTurns(Check c) {
        TurnedIsland x = Check.island(1);
        x.log(0, 0, 11);
        x.log(1, 0, 11);
        x.log(2, 0, 0);
        int[] due = {1, 2, 3};
        for (int i = 0; i < 3; i++) {
            c.due("turn " + i, x.back(0, 2, 10 + i), due[i]);
        }
        x.log(2, 0, 1);
        for (int i = 0; i < 3; i++) {
            c.due("no turn " + i, x.back(0, 2, 10 + i), -1);
        }
        TurnedIsland y = Check.island(1);
        for (int i = 0; i < 40; i++) {
            c.due("turn " + i + " of forty", y.back(100, 139, 10 + i), 2);
        }
    }

    private static void backRefused(Check c) {
        TurnedIsland x = Check.island(1);
        int[][] wrong = {{-1, 0}, {-1, -1}, {1, 0}, {9999, 10000}, {10000, 10000}, {0, 40}, {0, 9999}, {MIN, MAX},
            {MAX, MIN}, {MIN, MIN}, {MAX, MAX}, {MIN, 0}, {0, MAX}};
        for (int[] w : wrong) {
            for (int what : new int[] {0, 1, 10}) {
                c.due("back(" + w[0] + ", " + w[1] + ", " + what + ")", x.back(w[0], w[1], what), -1);
            }
        }
    }

    private static void backOfAnotherWhat(Check c) {
        TurnedIsland x = Check.island(1);
        int[][] wrong = {{0, 0, -1}, {0, 0, 2}, {0, 0, 9}, {0, 0, 11}, {0, 2, 13}, {5, 5, 11}, {5, 7, 13}, {0, 39, 50},
            {0, 39, MIN}, {0, 39, MAX}};
        for (int[] w : wrong) {
            c.due("back(" + w[0] + ", " + w[1] + ", " + w[2] + ")", x.back(w[0], w[1], w[2]), -1);
        }
    }

    private static void undone(Check c) {
        TurnedIsland x = oneWant("worth 3;");
        x.promise(0, 1, 0, 9);
        x.noons(2);
        c.yes("undo()", x.undo());
        c.due("day", x.look(2), 1);
        c.due("angle", x.look(1), 1);
        c.due("grease", x.look(3), 98);
        c.due("coin", x.of(0, 3), 3);
        c.due("turned(1)", x.turned(1), -1);
        c.due("turned(0)", x.turned(0), 3);
        c.yes("undo()", x.undo());
        c.due("day", x.look(2), 0);
    }

    private static void nothingToUndo(Check c) {
        TurnedIsland x = Check.island(1);
        c.no("ahead of a noon", x.undo());
        x.noons(1);
        c.yes("behind one", x.undo());
        c.no("twice", x.undo());
        c.due("day", x.look(2), 0);
        x.noons(11);
        for (int i = 0; i < 10; i++) {
            c.yes("undo()", x.undo());
        }
        c.no("the eleventh", x.undo());
        c.due("day", x.look(2), 1);
        x.noons(1);
        x.set(0, 0);
        c.no("forgotten", x.undo());
        c.due("day", x.look(2), 2);
    }

    private static void image(Check c) {
        TurnedIsland x = Check.island(1);
        c.yes("taken", x.image(true));
        x.set(0, 4);
        c.yes("gone back to", x.image(false));
        c.due("angle", x.look(1), 0);
        c.due("plots", x.look(5), 1);
        x.set(0, 4);
        c.yes("taken anew", x.image(true));
        x.set(0, 0);
        c.yes("gone back to", x.image(false));
        c.due("angle", x.look(1), 4);
    }

    private static void noImage(Check c) {
        TurnedIsland x = Check.island(1);
        x.set(0, 4);
        x.noons(2);
        c.no("none was taken", x.image(false));
        c.due("plots", x.look(5), 1);
        c.due("angle", x.look(1), 4);
        c.due("what can be undone", x.look(9), 2);
        x.notches(12);
        c.no("nor by telling notches", x.image(false));
    }

    private static void look(Check c) {
        TurnedIsland x = new TurnedIsland();
        x.notches(9);
        x.plot(0, 1, 4, 0);
        x.plot(0, 1, 4, 0);
        x.set(0, 8);
        x.set(1, 300);
        x.set(2, 77);
        x.set(3, 66);
        x.sell(0, 1, 300, 300, 0);
        x.sell(0, 1, 301, 301, 0);
        x.sell(0, 1, 302, 302, 0);
        for (int i = 0; i < 4; i++) {
            x.promise(0, 0, i, i);
        }
        x.drop(0);
        for (int i = 0; i < 5; i++) {
            x.log(i, 0, 0);
        }
        x.noons(6);
        int[] due = {9, 8, 306, 77, 66, 2, 3, 4, 5, 6};
        for (int what = 0; what < due.length; what++) {
            c.due("look(" + what + ")", x.look(what), due[what]);
        }
    }

    private static void lookLines(Check c) {
        TurnedIsland x = new TurnedIsland();
        for (int k = 0; k < 4; k++) {
            Check.tell(x, k, "worth 1;".repeat(16 - k));
        }
        for (int k = 0; k < 4; k++) {
            c.due("look(" + (10 + k) + ")", x.look(10 + k), 16 - k);
        }
        c.due("look(14)", x.look(14), -100000);
    }

    private static void lookPayments(Check c) {
        TurnedIsland x = new TurnedIsland();
        for (int p = 0; p < 10; p++) {
            c.due("look(" + (20 + p) + ") ahead of the plot", x.look(20 + p), -100000);
            x.plot(0, 1, 4, 0);
            c.due("look(" + (20 + p) + ") with the plot", x.look(20 + p), 0);
            x.pay(p, p - 5);
            c.due("look(" + (20 + p) + ") told", x.look(20 + p), p - 5);
        }
        c.due("look(30)", x.look(30), -100000);
    }

    private static void lookAnotherWhat(Check c) {
        TurnedIsland x = Check.island(10);
        for (int what : new int[] {-1, 14, 15, 16, 17, 18, 19, 30, 31, MIN, MAX}) {
            c.due("look(" + what + ")", x.look(what), -100000);
        }
        TurnedIsland y = Check.island(2);
        c.due("look(21) with two plots", y.look(21), 0);
        c.due("look(22) with two plots", y.look(22), -100000);
    }
}
