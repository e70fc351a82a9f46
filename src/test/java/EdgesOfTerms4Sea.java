/** The fourth part of the terms, as far as it is about plans, boats, logs, days undone and the image. */
final class EdgesOfTerms4Sea {
    private static final long MOST_ROWS = 100000000000000000L;

    private EdgesOfTerms4Sea() {
    }

    /** Goes on where EdgesOfTerms4 ends. */
    static void all(Edges e) {
        e.edge("PLANS: for DAYS 0 .. 59 from now a turn each (0 at first).", EdgesOfTerms4Sea::plans);
        e.edge("A BOAT that takes n DAYS (0 .. 59) to a PLOT's jetty, coming at a sea angle:",
                EdgesOfTerms4Sea::boatDays);
        e.edge("the first DAY from now on which it may leave", EdgesOfTerms4Sea::boatFirstDay);
        e.edge("so that on the DAY when it comes (behind noon) by PLANS the PLOT stands there",
                EdgesOfTerms4Sea::boatBehindNoon);
        e.edge("(all within the 60 DAYS).", EdgesOfTerms4Sea::boatWithin60);
        e.edge("LOGS (40 at most):", EdgesOfTerms4Sea::logs40);
        e.edge("on a DAY (behind noon) a PLOT was seen at an angle.", EdgesOfTerms4Sea::logBehindNoon);
        e.edge("TURNS TOLD BACK for the DAYS a .. b (40 at most;", EdgesOfTerms4Sea::back40);
        e.edge("ANGLE at a's morning any):", EdgesOfTerms4Sea::anyAngleAtFirst);
        e.edge("how many rows of turns with it go with all LOGS of these DAYS", EdgesOfTerms4Sea::rowsWithLogs);
        e.edge("(PLOTS as they are),", EdgesOfTerms4Sea::plotsAsTheyAre);
        e.edge("10^17 at most;", EdgesOfTerms4Sea::mostRows);
        e.edge("the first one (by the ANGLE at first, then DAY by DAY 0, 1, -1).", EdgesOfTerms4Sea::firstRow);
        e.edge("UNDO: the latest NOON not undone yet goes back (ANGLE, DAY, GREASE, COIN, THE BOOK as ahead of it):",
                EdgesOfTerms4Sea::undo);
        e.edge("10 are kept;", EdgesOfTerms4Sea::tenAreKept);
        e.edge("whatever else is told but texts, PLANS, LOGS, PAYMENTS forgets them.",
                EdgesOfTerms4Sea::whatForgets);
        e.edge("THE IMAGE: all that is and was told", EdgesOfTerms4Sea::imageHoldsAll);
        e.edge("but the TAPE, fault() and what can be undone (nothing then),", EdgesOfTerms4Sea::imageHoldsNot);
        e.edge("as it was when it was taken;", EdgesOfTerms4Sea::imageAsItWas);
        e.edge("gone back to it may be more than once.", EdgesOfTerms4Sea::imageMoreThanOnce);
        e.edge("The constants: `NONE = -1`: None.", c -> c.due("NONE", TurnedIsland.NONE, -1));
    }

    private static TurnedIsland ofFour() {
        TurnedIsland x = new TurnedIsland();
        x.notches(4);
        x.plot(0, 1, 4, 0);
        x.plot(3, 1, 4, 0);
        return x;
    }

    private static void plans(Check c) {
        TurnedIsland x = ofFour();
        for (int days = 0; days < 60; days += 59) {
            c.due("0 at first: never at 1", x.boat(0, days, 1), -1);
            c.due("0 at first: at 0 always", x.boat(0, days, 0), 0);
        }
        for (int i = 0; i < 60; i++) {
            c.yes("plan(" + i + ", 1)", x.plan(i, 1));
            c.due("boat for the turn of day " + i, x.boat(0, 0, 1), i);
            c.yes("plan(" + i + ", 0)", x.plan(i, 0));
        }
        c.no("plan(-1, 0)", x.plan(-1, 0));
        c.no("plan(60, 0)", x.plan(60, 0));
        c.yes("plan(59, -1)", x.plan(59, -1));
        c.due("back on the last day", x.boat(0, 0, 3), 59);
    }

    private static void boatDays(Check c) {
        TurnedIsland x = ofFour();
        x.plan(59, 1);
        c.due("-1 days", x.boat(0, -1, 0), -1);
        c.due("60 days", x.boat(0, 60, 1), -1);
        c.due("0 days", x.boat(0, 0, 1), 59);
        c.due("59 days", x.boat(0, 59, 1), 0);
        c.due("58 days", x.boat(0, 58, 1), 1);
        c.due("angle 3", x.boat(0, 0, 3), -1);
        c.due("angle 4", x.boat(0, 0, 4), -1);
        c.due("angle -1", x.boat(0, 0, -1), -1);
        c.due("the other plot's jetty", x.boat(1, 0, 0), 59);
        c.due("a third plot's", x.boat(2, 0, 1), -1);
    }

    private static void boatFirstDay(Check c) {
        TurnedIsland x = ofFour();
        x.plan(10, 1);
        x.plan(12, -1);
        x.plan(30, 1);
        // The plot is at 1 behind the noons of days 10, 11 and 30 .. 59.
        c.due("of several days the first", x.boat(0, 0, 1), 10);
        c.due("one day", x.boat(0, 1, 1), 9);
        c.due("ten days", x.boat(0, 10, 1), 0);
        c.due("eleven days", x.boat(0, 11, 1), 0);
        c.due("twelve days: the later ones", x.boat(0, 12, 1), 18);
        c.due("thirty days", x.boat(0, 30, 1), 0);
        c.due("at 0", x.boat(0, 0, 0), 0);
        c.due("at 0 in ten days", x.boat(0, 10, 0), 2);
    }

    private static void boatBehindNoon(Check c) {
        TurnedIsland x = ofFour();
        x.plan(0, -1);
        c.due("at 0 in the morning, not behind noon", x.boat(0, 0, 0), -1);
        c.due("at 3 behind noon", x.boat(0, 0, 3), 0);
        c.due("the other at 2", x.boat(1, 0, 2), 0);
        x.set(0, 1);
        c.due("from the angle that is", x.boat(0, 0, 0), 0);
        x.noons(1);
        c.due("plans are from now, whatever day it is", x.boat(0, 0, 0), 0);
        c.due("no turn was made by them", x.look(1), 1);
    }

    private static void boatWithin60(Check c) {
        TurnedIsland x = ofFour();
        x.plan(30, 1);
        x.plan(31, -1);
        // The plot is at 1 behind the noon of day 30 alone.
        c.due("29 days", x.boat(0, 29, 1), 1);
        c.due("30 days", x.boat(0, 30, 1), 0);
        c.due("31 days", x.boat(0, 31, 1), -1);
        TurnedIsland y = ofFour();
        for (int i = 0; i < 60; i++) {
            y.plan(i, 1);
        }
        // Behind day 59's noon it is at 0 again, and a day later it would be at 1.
        c.due("58 days, at 3", y.boat(0, 58, 3), 0);
        c.due("58 days, at 0", y.boat(0, 58, 0), 1);
        c.due("58 days, at 1", y.boat(0, 58, 1), -1);
        c.due("59 days, at 0", y.boat(0, 59, 0), 0);
        c.due("59 days, at 1", y.boat(0, 59, 1), -1);
    }

    private static void logs40(Check c) {
        TurnedIsland x = ofFour();
        for (int i = 0; i < 40; i++) {
            c.yes("log " + i, x.log(i, 0, i % 2));
        }
        c.no("the 41st", x.log(40, 0, 0));
        c.due("logs", x.look(8), 40);
        c.due("the 40th counts", x.back(39, 39, 0), 3);
        c.due("the 41st doesn't", x.back(40, 40, 0), 12);
        c.due("all forty", x.back(0, 39, 0), 3);
    }

    private static void logBehindNoon(Check c) {
        TurnedIsland x = ofFour();
        x.log(5, 1, 0);
        // The second plot at 0: the island was at 1 behind day 5's noon.
        c.due("rows of day 5", x.back(5, 5, 0), 3);
        c.due("from 0", x.back(5, 5, 1), 0);
        c.due("by a turn of 1", x.back(5, 5, 10), 3);
        c.due("rows of day 6, whose morning that was", x.back(6, 6, 0), 12);
        c.yes("the first day", x.log(0, 0, 0));
        c.yes("the last day", x.log(9999, 0, 0));
        c.due("rows of the last day", x.back(9999, 9999, 0), 3);
        c.due("rows of the day ahead of it", x.back(9998, 9998, 0), 12);
    }

    private static void back40(Check c) {
        TurnedIsland x = ofFour();
        c.due("one day", x.back(7, 7, 0), 12);
        c.due("no day", x.back(7, 6, 0), -1);
        c.due("forty days", x.back(7, 46, 0), MOST_ROWS);
        c.due("the fortieth turn", x.back(7, 46, 49), 2);
        c.due("41 days", x.back(7, 47, 0), -1);
        c.due("the last forty", x.back(9960, 9999, 0), MOST_ROWS);
        c.due("beyond the last", x.back(9961, 10000, 0), -1);
        c.due("ahead of the first", x.back(-1, 0, 0), -1);
        c.due("far apart", x.back(Integer.MIN_VALUE, Integer.MAX_VALUE, 0), -1);
    }

    private static void anyAngleAtFirst(Check c) {
        for (int n = 4; n <= 24; n++) {
            TurnedIsland x = new TurnedIsland();
            x.notches(n);
            x.set(0, n - 1);
            c.due("rows of one day with " + n, x.back(0, 0, 0), 3 * n);
        }
        TurnedIsland x = ofFour();
        x.log(0, 0, 2);
        c.due("where it is now doesn't count", x.back(0, 0, 0), 3);
        c.due("the first angle", x.back(0, 0, 1), 1);
    }

    private static void rowsWithLogs(Check c) {
        TurnedIsland x = ofFour();
        x.log(10, 0, 0);
        x.log(12, 0, 2);
        // Two turns the same way between them, on or back.
        c.due("days 11 .. 12 ask for the later log alone", x.back(11, 12, 0), 9);
        c.due("days 10 .. 12", x.back(10, 12, 0), 6);
        c.due("days 9 .. 13", x.back(9, 13, 0), 54);
        c.due("day 11", x.back(11, 11, 0), 12);
        c.due("days 13 .. 14", x.back(13, 14, 0), 36);
        x.log(11, 1, 0);
        c.due("on, as the other plot says", x.back(10, 12, 0), 3);
        x.log(11, 0, 1);
        c.due("a log that says the same", x.back(10, 12, 0), 3);
        x.log(11, 0, 3);
        c.due("one against it", x.back(10, 12, 0), 0);
        c.due("no angle", x.back(10, 12, 1), -1);
        c.due("no turn", x.back(10, 12, 11), -1);
        c.due("days without it", x.back(12, 13, 0), 9);
        TurnedIsland y = new TurnedIsland();
        y.notches(24);
        y.plot(0, 1, 4, 0);
        y.log(0, 0, 23);
        c.due("the last angle of 24, and any turn behind it", y.back(0, 1, 0), 9);
        y.log(1, 0, 0);
        c.due("and on to 0", y.back(0, 1, 0), 3);
    }

    private static void plotsAsTheyAre(Check c) {
        TurnedIsland x = ofFour();
        x.log(0, 0, 0);
        x.log(0, 1, 3);
        c.due("places 0 and 3", x.back(0, 0, 0), 3);
        c.due("the first angle", x.back(0, 0, 1), 0);
        x.set(0, 2);
        x.noons(3);
        c.due("wherever the island is by now", x.back(0, 0, 1), 0);
        x.plot(1, 1, 4, 0);
        x.log(0, 2, 2);
        c.due("a plot that came later says otherwise", x.back(0, 0, 0), 0);
    }

    private static void mostRows(Check c) {
        long power = 16677181699666569L;
        long[] due = {4 * power, 5 * power, MOST_ROWS, MOST_ROWS};
        for (int n = 4; n <= 7; n++) {
            TurnedIsland x = new TurnedIsland();
            x.notches(n);
            c.due("34 days with " + n, x.back(0, 33, 0), due[n - 4]);
        }
        TurnedIsland x = new TurnedIsland();
        x.notches(24);
        c.due("40 days with 24", x.back(0, 39, 0), MOST_ROWS);
        x.plot(0, 1, 4, 0);
        x.log(0, 0, 0);
        x.log(39, 0, 0);
        c.due("from 0 to 0 in 39 days, and three ahead of them", x.back(0, 39, 0), MOST_ROWS);
        x.log(1, 0, 12);
        c.due("too far for one day", x.back(0, 39, 0), 0);
    }

    private static void firstRow(Check c) {
        TurnedIsland x = ofFour();
        c.due("nothing seen: from 0", x.back(0, 2, 1), 0);
        for (int i = 0; i < 3; i++) {
            c.due("nothing seen: turn " + i, x.back(0, 2, 10 + i), 2);
        }
        x.log(2, 0, 2);
        int[] due = {2, 3, 3};
        c.due("at 2 behind day 2: from 0", x.back(0, 2, 1), 0);
        for (int i = 0; i < 3; i++) {
            c.due("at 2 behind day 2: turn " + i, x.back(0, 2, 10 + i), due[i]);
        }
        c.due("in one day not from 0", x.back(2, 2, 1), 1);
        c.due("but from 1", x.back(2, 2, 10), 3);
        x.log(1, 0, 3);
        c.due("at 3 and 2: from 0", x.back(0, 2, 1), 0);
        int[] later = {2, 1, 1};
        for (int i = 0; i < 3; i++) {
            c.due("at 3 and 2: turn " + i, x.back(0, 2, 10 + i), later[i]);
        }
        TurnedIsland y = new TurnedIsland();
        y.notches(24);
        y.plot(0, 1, 4, 0);
        y.log(0, 0, 22);
        c.due("behind 21, not 23 or 22", y.back(0, 0, 1), 21);
        y.log(1, 0, 23);
        y.log(0, 0, 22);
        c.due("from 21", y.back(0, 1, 1), 21);
        c.due("the 11th what is the last", y.back(0, 1, 11), 3);
        c.due("the 12th is none", y.back(0, 1, 12), -1);
        TurnedIsland z = new TurnedIsland();
        z.notches(24);
        z.plot(0, 1, 4, 0);
        z.log(1, 0, 2);
        c.due("at 2 behind day 1: from 0", z.back(0, 1, 1), 0);
        c.due("not by 0, from which none goes on", z.back(0, 1, 10), 3);
        c.due("but by 1 twice", z.back(0, 1, 11), 3);
    }

    /** Turns on every day, is paid and pays. */
    private static TurnedIsland running() {
        TurnedIsland x = new TurnedIsland();
        Check.tell(x, 0, "worth 3;");
        x.plot(0, 2, 0, 0);
        x.plot(0, 1, 4, 50);
        x.promise(0, 1, 0, 9999);
        x.set(2, 500);
        x.set(3, 1);
        return x;
    }

    private static void undo(Check c) {
        TurnedIsland x = running();
        x.noons(13);
        for (int left = 12; left >= 10; left--) {
            c.yes("undo()", x.undo());
            c.due("angle", x.look(1), left % 12);
            c.due("day", x.look(2), left);
            c.due("grease", x.look(3), 500 - left);
            c.due("coin of 0", x.of(0, 3), 2 * left);
            c.due("coin of 1", x.of(1, 3), 50);
            c.due("the book without the day", x.turned(left), -1);
            c.due("and with the one ahead", x.turned(left - 1), 3);
        }
        x.noons(1);
        c.yes("a noon behind undone ones", x.undo());
        c.due("goes back to where it was", x.look(2), 10);
        c.yes("then the latest that is not undone yet", x.undo());
        c.due("day", x.look(2), 9);
        x.set(1, 100);
        x.noons(3);
        x.undo();
        c.due("the book has no more days than ahead of it", x.turned(99), -1);
        c.due("and no fewer", x.turned(100), 3);
        // With 401 days gone the book has lost one, which comes back.
        TurnedIsland y = running();
        y.noons(400);
        y.noons(10);
        c.due("lost", y.turned(9), -1);
        for (int i = 0; i < 10; i++) {
            y.undo();
        }
        c.due("back", y.turned(0), 3);
        c.due("the last", y.turned(399), 3);
        c.due("undone", y.turned(400), -1);
    }

    private static void tenAreKept(Check c) {
        TurnedIsland x = running();
        for (int n = 1; n <= 12; n++) {
            x.noons(1);
            c.due("kept behind " + n, x.look(9), Math.min(n, 10));
        }
        for (int n = 9; n >= 0; n--) {
            c.yes("undo", x.undo());
            c.due("kept", x.look(9), n);
        }
        c.no("an eleventh", x.undo());
        c.due("day", x.look(2), 2);
        x.noons(400);
        c.due("kept of one call of many noons", x.look(9), 10);
        x.undo();
        c.due("one noon at a time", x.look(2), 401);
        x.noons(1);
        c.due("ten again", x.look(9), 10);
        x.noons(1);
        c.due("and no more", x.look(9), 10);
    }

    private static void whatForgets(Check c) {
        String[] calls = {"sky", "plot", "angle", "day", "grease", "pull", "sell", "promise", "drop", "notches",
            "image(false)"};
        for (int call = 0; call < calls.length; call++) {
            TurnedIsland x = running();
            x.image(true);
            x.noons(3);
            c.yes(calls[call] + " is told", forgetting(x, call));
            c.due(calls[call] + " forgets", x.look(9), 0);
            c.no("undo() behind " + calls[call], x.undo());
        }
        TurnedIsland x = running();
        x.noons(3);
        Check.tell(x, 2, "worth 1;");
        c.due("a text doesn't", x.look(9), 3);
        Check.tell(x, 2, "worth");
        c.due("a text with a fault doesn't", x.look(9), 3);
        x.plan(0, 1);
        c.due("a plan doesn't", x.look(9), 3);
        x.log(0, 0, 0);
        c.due("a log doesn't", x.look(9), 3);
        x.pay(0, 7);
        c.due("a payment doesn't", x.look(9), 3);
        c.yes("undo()", x.undo());
        c.due("the text stays", x.look(12), 1);
        c.due("the plan stays", x.boat(0, 0, 3), 0);
        c.due("the log stays", x.look(8), 1);
        c.due("the payment stays", x.look(20), 7);
        refused(c, x);
    }

    private static boolean forgetting(TurnedIsland x, int call) {
        switch (call) {
            case 0:
                return x.sky(0, 0, 0, 0);
            case 1:
                return x.plot(0, 1, 0, 0) == 2;
            case 2:
                return x.set(0, 3);
            case 3:
                return x.set(1, 3);
            case 4:
                return x.set(2, 497);
            case 5:
                return x.set(3, 1);
            case 6:
                return x.sell(0, 1, 3, 3, 0);
            case 7:
                return x.promise(0, 1, 3, 3) == 1;
            case 8:
                return x.drop(0);
            case 9:
                return x.notches(12);
            default:
                return x.image(false);
        }
    }

    /** What is refused is not told. */
    private static void refused(Check c, TurnedIsland x) {
        x.sky(0, 0, 0, 10);
        x.plot(0, 0, 0, 0);
        x.set(0, 12);
        x.set(1, 10000);
        x.set(2, 1000);
        x.set(3, 100);
        x.set(4, 0);
        x.sell(0, 0, 3, 3, 0);
        x.promise(0, 2, 3, 3);
        x.drop(7);
        x.notches(3);
        x.noons(0);
        x.image(false);
        c.due("refused calls don't", x.look(9), 2);
    }

    /** Answers that tell all that an image must hold. */
    private static long[] seen(TurnedIsland x) {
        long[] s = new long[90];
        int n = 0;
        for (int what = 0; what < 14; what++) {
            s[n++] = what == 9 ? 0 : x.look(what);
        }
        for (int p = 0; p < 3; p++) {
            s[n++] = x.look(20 + p);
            for (int what = 0; what < 5; what++) {
                s[n++] = x.of(p, what);
            }
            s[n++] = x.votes(p);
            s[n++] = x.holder(p, 4);
            s[n++] = x.holder(p, 5);
            s[n++] = x.holder(p, 9);
            s[n++] = x.holder(p, 60);
            s[n++] = x.worth(p, 4, 2, 1);
            s[n++] = x.worth(p, 330, 6, 0);
            s[n++] = x.fewest(p);
            s[n++] = x.boat(p, 0, 4);
            s[n++] = x.boat(p, 59, 5);
        }
        for (int day = 0; day < 5; day++) {
            s[n++] = x.turned(day);
        }
        s[n++] = x.quarrel();
        s[n++] = x.back(2, 2, 0);
        s[n++] = x.back(2, 2, 1);
        s[n++] = x.leave(2);
        return s;
    }

    private static TurnedIsland rich() {
        TurnedIsland x = new TurnedIsland();
        x.notches(8);
        for (int k = 0; k < 4; k++) {
            Check.tell(x, k, "worth sun+10*wind+100*current+" + k + " when angle>2;worth 7"
                    + (k == 0 ? ";" : "+day;"));
        }
        for (int what = 0; what < 3; what++) {
            x.sky(what, 0, 3, 3 + what);
            x.sky(what, 11, 7, 4 + what);
        }
        x.plot(1, 5, 0, 11);
        x.plot(6, 2, 3, 12);
        x.plot(7, 1, 1, 13);
        x.set(0, 2);
        x.set(2, 20);
        x.set(3, 4);
        x.promise(0, 1, 7, 8);
        x.promise(0, 0, 1, 2);
        x.promise(1, -1, 0, 99);
        x.promise(0, 1, 0, 3);
        x.promise(0, -1, 2, 9);
        x.drop(1);
        x.sell(1, 0, 4, 6, 5);
        x.sell(2, 1, 5, 9, 3);
        x.sell(1, 2, 50, 60, 2);
        x.plan(3, 1);
        x.plan(59, 1);
        x.log(2, 1, 1);
        x.log(2, 0, 4);
        x.pay(0, 8);
        x.pay(1, -9);
        x.noons(3);
        return x;
    }

    private static void disturb(TurnedIsland x) {
        for (int k = 0; k < 4; k++) {
            Check.tell(x, k, "worth 0-" + k + ";");
        }
        for (int what = 0; what < 3; what++) {
            x.sky(what, 0, 3, -1);
            x.sky(what, 11, 7, -1);
        }
        x.noons(2);
        x.set(0, 0);
        x.set(2, 0);
        x.set(3, 0);
        x.plot(3, 3, 1, 9);
        x.drop(0);
        x.drop(2);
        x.promise(1, 1, 0, 99);
        x.sell(0, 1, 6, 99, 77);
        x.plan(3, 0);
        x.plan(59, 0);
        x.plan(0, -1);
        x.log(2, 0, 5);
        x.pay(0, 1);
        x.pay(1, 1);
        x.set(1, 0);
        x.noons(1);
        x.worth(0, 4, 2, 1);
        x.worth(1, 330, 6, 0);
    }

    /** Other things in the places of those that the image has. */
    private static void beginAnew(TurnedIsland x) {
        x.notches(5);
        for (int p = 0; p < 3; p++) {
            x.plot(4, 9, 4, 77);
            x.pay(p, 7);
        }
        x.sell(2, 1, 50, 51, 1);
        x.sell(2, 0, 52, 53, 1);
        for (int p = 0; p < 5; p++) {
            x.promise(2, 1, 70, 71);
        }
        x.sell(2, 1, 54, 55, 1);
        x.log(60, 2, 1);
        x.log(61, 2, 1);
    }

    private static void same(Check c, String when, TurnedIsland x, TurnedIsland like) {
        long[] got = seen(x);
        long[] due = seen(like);
        for (int i = 0; i < due.length; i++) {
            c.due(when + ", answer " + i, got[i], due[i]);
        }
    }

    private static void imageHoldsAll(Check c) {
        TurnedIsland x = rich();
        x.image(true);
        disturb(x);
        c.yes("image(false)", x.image(false));
        same(c, "behind all that was told", x, rich());
        beginAnew(x);
        x.image(false);
        same(c, "behind other notches", x, rich());
        // What comes later goes on as it would have.
        TurnedIsland y = rich();
        c.due("noons", x.noons(9), y.noons(9));
        same(c, "nine noons later", x, y);
        c.due("promises are counted on", x.promise(1, 0, 0, 0), 5);
        c.no("what was dropped is", x.drop(1));
        c.yes("what was not can be", x.drop(3));
        c.no("what was sold is", x.sell(1, 0, 60, 61, 0));
        c.yes("what was not can be", x.sell(1, 0, 61, 61, 0));
    }

    private static void imageHoldsNot(Check c) {
        TurnedIsland x = new TurnedIsland();
        Check.tell(x, 0, "worth x;");
        Check.feed(x, "worth 1;");
        x.noons(2);
        x.image(true);
        c.due("taken, noons can be undone still", x.look(9), 2);
        x.text(1);
        Check.tell(x, 0, "worth 1/0;");
        Check.feed(x, "worth 1;worth 2;worth 3;");
        x.noons(1);
        x.image(false);
        c.due("nothing can be undone", x.look(9), 0);
        c.no("undo()", x.undo());
        c.due("fault(0) is the latest text's", x.fault(0), 2);
        c.due("fault(1) is the latest text's", x.fault(1), 8);
        c.due("the tape is as it is", x.text(2), 3);
        c.due("day", x.look(2), 2);
    }

    private static void imageAsItWas(Check c) {
        TurnedIsland x = new TurnedIsland();
        x.image(true);
        x.set(0, 5);
        x.image(false);
        c.due("the angle it had", x.look(1), 0);
        x.set(0, 5);
        x.image(true);
        x.set(0, 6);
        x.image(false);
        c.due("an image taken anew", x.look(1), 5);
        x.notches(4);
        x.image(true);
        x.notches(24);
        x.image(false);
        c.due("other notches", x.look(0), 4);
        c.due("other angle", x.look(1), 0);
    }

    private static void imageMoreThanOnce(Check c) {
        TurnedIsland x = rich();
        x.image(true);
        for (int time = 1; time <= 3; time++) {
            disturb(x);
            c.yes("image(false)", x.image(false));
            same(c, "time " + time, x, rich());
            c.yes("at once again", x.image(false));
        }
        same(c, "at last", x, rich());
    }
}
