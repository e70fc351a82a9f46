/** The fourth part of the terms, as far as it is about votes, turns and promises. */
final class EdgesOfTerms4 {
    private EdgesOfTerms4() {
    }

    static void all(Edges e) {
        e.terms(4);
        e.edge("PIVOTS of a PLOT (WEIGHTS alone,", EdgesOfTerms4::weightsAlone);
        e.edge("more than half of all being enough):", EdgesOfTerms4::halfIsNotEnough);
        e.edge("in how many of all orders of the PLOTS it is the one by which those up to it are enough;",
                EdgesOfTerms4::pivots);
        e.edge("SWINGS: how many sets of other PLOTS are not enough, but are with it.", EdgesOfTerms4::swings);
        e.edge("BEST TURNS for m DAYS (1 .. 30) from now", EdgesOfTerms4::bestFromNow);
        e.edge("(any turn on each, GREASE not asked):", EdgesOfTerms4::bestByAnyTurns);
        e.edge("WORTH of all DAYS to all owners together is greatest;", EdgesOfTerms4::bestTogether);
        e.edge("of several the first (DAY by DAY, 0, then 1, then -1).", EdgesOfTerms4::bestOfSeveral);
        e.edge("FAIR TURNS (m 1 .. 6):", EdgesOfTerms4::fairDays);
        e.edge("the WORTH of all these DAYS to the owner who has least of it is greatest;", EdgesOfTerms4::fairLeast);
        e.edge("of several that with more together,", EdgesOfTerms4::fairMoreTogether);
        e.edge("then the first.", EdgesOfTerms4::fairFirst);
        e.edge("ALONE: what a set of owners could have together in m DAYS (1 .. 6):", EdgesOfTerms4::aloneDays);
        e.edge("if its WEIGHTS are more than half of all: the greatest WORTH of these to them by any turns;",
                EdgesOfTerms4::aloneWithMoreThanHalf);
        e.edge("else the least that any turns leave them.", EdgesOfTerms4::aloneWithoutIt);
        e.edge("PAYMENTS are told, one for each owner (-99999 .. 99999; 0 at first):", EdgesOfTerms4::payments);
        e.edge("LEAVE: of all sets of owners to whom the WORTHS by BEST TURNS of m DAYS and PAYMENTS together are less"
                + " than what they could have ALONE", EdgesOfTerms4::leaveIfLess);
        e.edge("that with the fewest,", EdgesOfTerms4::leaveFewest);
        e.edge("then the least as a number.", EdgesOfTerms4::leaveLeast);
        e.edge("PROMISES quarrel, if they are of one owner, have a DAY in common and unlike turns.",
                EdgesOfTerms4::quarrels);
        e.edge("FIRST: the first that quarrels with one ahead.", EdgesOfTerms4::firstQuarrel);
        e.edge("FEWEST: the least set of PROMISES without which none quarrel", EdgesOfTerms4::noneQuarrel);
        e.edge("(fewest,", EdgesOfTerms4::fewest);
        e.edge("then the least as a number), of one owner.", EdgesOfTerms4::fewestLeast);
        EdgesOfTerms4Sea.all(e);
    }

    private static TurnedIsland weights(int... weights) {
        TurnedIsland x = new TurnedIsland();
        for (int w : weights) {
            x.plot(0, w, 4, 0);
        }
        return x;
    }

    private static void powers(Check c, int[] weights, int what, int... due) {
        TurnedIsland x = weights(weights);
        for (int p = 0; p < weights.length; p++) {
            c.due("of(" + p + ", " + what + ") of " + java.util.Arrays.toString(weights), x.of(p, what), due[p]);
        }
    }

    private static void weightsAlone(Check c) {
        TurnedIsland x = weights(2, 1, 1);
        x.promise(0, 1, 0, 99);
        x.sell(1, 2, 0, 99, 5);
        x.set(2, 0);
        int[] pivots = {4, 1, 1};
        for (int p = 0; p < 3; p++) {
            c.due("pivots of " + p + ", whoever holds what", x.of(p, 5), pivots[p]);
        }
    }

    private static void halfIsNotEnough(Check c) {
        // Half by itself is not enough: each needs the other.
        powers(c, new int[] {1, 1}, 5, 1, 1);
        powers(c, new int[] {1, 1}, 6, 1, 1);
        powers(c, new int[] {2, 1, 1}, 6, 3, 1, 1);
        powers(c, new int[] {3, 1, 1}, 5, 6, 0, 0);
        powers(c, new int[] {9, 4, 4}, 5, 6, 0, 0);
        powers(c, new int[] {9, 5, 4}, 5, 4, 1, 1);
    }

    private static void pivots(Check c) {
        powers(c, new int[] {1}, 5, 1);
        powers(c, new int[] {9}, 5, 1);
        powers(c, new int[] {1, 1, 1}, 5, 2, 2, 2);
        powers(c, new int[] {4, 3, 2, 1}, 5, 10, 6, 6, 2);
        int all = 362880;
        powers(c, new int[] {1, 1, 1, 1, 1, 1, 1, 1, 1, 1}, 5, all, all, all, all, all, all, all, all, all, all);
        // Nine against nine of one: he is the one wherever he comes but first, and then the second is.
        int great = 9 * all;
        int small = 40320;
        powers(c, new int[] {9, 1, 1, 1, 1, 1, 1, 1, 1, 1}, 5, great, small, small, small, small, small, small, small,
                small, small);
    }

    private static void swings(Check c) {
        powers(c, new int[] {1}, 6, 1);
        powers(c, new int[] {1, 1, 1}, 6, 2, 2, 2);
        powers(c, new int[] {3, 1, 1}, 6, 4, 0, 0);
        powers(c, new int[] {4, 3, 2, 1}, 6, 5, 3, 3, 1);
        powers(c, new int[] {1, 1, 1, 1, 1, 1, 1, 1, 1, 1}, 6, 126, 126, 126, 126, 126, 126, 126, 126, 126, 126);
        // All sets of the others but the empty one are enough with him and not without.
        powers(c, new int[] {9, 1, 1, 1, 1, 1, 1, 1, 1, 1}, 6, 511, 1, 1, 1, 1, 1, 1, 1, 1, 1);
    }

    private static void bestFromNow(Check c) {
        TurnedIsland x = new TurnedIsland();
        Check.tell(x, 0, "worth day;");
        x.plot(0, 1, 0, 0);
        c.due("no day", x.best(0, 0), -1000000);
        c.due("31 days", x.best(31, 0), -1000000);
        c.due("one day", x.best(1, 0), 0);
        c.due("thirty days", x.best(30, 0), 29 * 30 / 2);
        for (int m = 30; m >= 1; m--) {
            c.due(m + " days, whatever was asked ahead", x.best(m, 0), m * (m - 1) / 2);
        }
        x.set(1, 100);
        c.due("one day from day 100", x.best(1, 0), 100);
        c.due("thirty days from day 100", x.best(30, 0), 3000 + 29 * 30 / 2);
        // On the last day of a month the next day has another sky.
        TurnedIsland y = new TurnedIsland();
        Check.tell(y, 0, "worth sun;");
        y.plot(0, 1, 0, 0);
        y.sky(0, 1, 1, 9);
        y.set(1, 28);
        c.due("two days of month 0", y.best(2, 0), 0);
        y.set(1, 29);
        c.due("a day of month 0 and one of month 1", y.best(2, 0), 9);
        y.set(0, 3);
        c.due("two notches away", y.best(2, 0), 9);
        y.set(0, 4);
        c.due("three are too far", y.best(2, 0), 0);
        y.set(0, 2);
        c.due("0 first, if there is time", y.best(2, 10), 2);
        c.due("then back", y.best(2, 11), 1);
        // Days on each of which it must be as far round as it can be by then.
        TurnedIsland z = new TurnedIsland();
        z.notches(24);
        Check.tell(z, 0, "worth 7 when angle=12 and day=11;worth 8 when angle=0 and day=23;"
                + "worth 9 when angle=6 and day=29;");
        z.plot(0, 1, 0, 0);
        c.due("half round, on or back, and on", z.best(30, 0), 24);
        c.due("on from the first day, 1 ahead of -1", z.best(30, 10), 3);
        c.due("and from there, on or back", z.best(30, 22), 3);
        c.due("the last turn", z.best(30, 39), 3);
    }

    private static void bestByAnyTurns(Check c) {
        TurnedIsland x = weights(9);
        Check.tell(x, 0, "worth 5 when angle=2;");
        x.plot(0, 1, 0, 0);
        x.promise(0, 0, 0, 99);
        x.promise(1, 0, 0, 99);
        x.set(2, 0);
        x.set(3, 99);
        c.due("without grease, votes or pull", x.best(3, 0), 10);
        c.due("the first turn", x.best(3, 10), 3);
        c.due("the next", x.best(3, 11), 3);
        c.due("the last", x.best(3, 12), 2);
        // A turn is a turn for whoever wants none.
        Check.tell(x, 0, "worth 5 when angle=2;worth 0-9*turned;");
        c.due("turns that cost more than they bring", x.best(3, 0), 0);
        c.due("none is made", x.best(3, 10), 2);
        c.due("unless there is time enough", x.best(6, 0), 7);
    }

    private static void bestTogether(Check c) {
        TurnedIsland x = new TurnedIsland();
        Check.tell(x, 0, "worth 5 when angle=1;");
        Check.tell(x, 1, "worth 4 when angle=11;");
        x.plot(0, 1, 0, 0);
        x.plot(0, 9, 1, 0);
        c.due("5 is more than 4, whatever they weigh", x.best(1, 0), 5);
        c.due("on", x.best(1, 10), 3);
        x.plot(0, 1, 1, 0);
        c.due("4 and 4 are more than 5", x.best(1, 0), 8);
        c.due("back", x.best(1, 10), 1);
        Check.tell(x, 2, "worth 0-9999;");
        x.plot(0, 1, 2, 0);
        c.due("less than nothing is counted too", x.best(1, 0), 8 - 9999);
        for (int p = 4; p < 10; p++) {
            x.plot(0, 1, 2, 0);
        }
        c.due("the least there can be, but for 240", x.best(30, 0), 30 * (8 - 7 * 9999));
        turnsAreWorthIt(c);
    }

    /** Whatever the days are, the turns that are told bring what is told. */
    private static void turnsAreWorthIt(Check c) {
        for (int m : new int[] {2, 3, 5, 6, 8, 13, 21, 30}) {
            TurnedIsland x = new TurnedIsland();
            x.notches(24);
            Check.tell(x, 0, "worth angle*day*7-day*day*3-angle*angle*5 when angle*3>day;worth day*turned;"
                    + "worth 200-angle*angle;worth 40*turned when angle<day;");
            x.plot(5, 1, 0, 0);
            int sum = 0;
            int angle = 0;
            for (int i = 0; i < m; i++) {
                int turn = x.best(m, 10 + i) - 2;
                angle = (angle + turn + 24) % 24;
                sum += x.worth(0, i, angle, turn);
            }
            c.due("what the turns of " + m + " days bring", sum, x.best(m, 0));
        }
    }

    private static TurnedIsland oneOfFour(String text) {
        TurnedIsland x = new TurnedIsland();
        x.notches(4);
        Check.tell(x, 0, text);
        x.plot(0, 1, 0, 0);
        return x;
    }

    private static void row(Check c, TurnedIsland x, boolean fair, int... due) {
        for (int i = 0; i < due.length; i++) {
            int got = fair ? x.fair(due.length, 10 + i) : x.best(due.length, 10 + i);
            c.due("turn " + i + " of " + due.length, got, due[i] + 2);
        }
    }

    private static void bestOfSeveral(Check c) {
        row(c, oneOfFour(""), false, 0, 0, 0);
        row(c, oneOfFour("worth turned;"), false, 1, 1, 1);
        row(c, oneOfFour("worth 1 when angle=2 and day=2;"), false, 0, 1, 1);
        row(c, oneOfFour("worth 1 when angle=2 and day=3;"), false, 0, 0, 1, 1);
        row(c, oneOfFour("worth 1 when angle=1 and day=2;"), false, 0, 0, 1);
        row(c, oneOfFour("worth 1 when angle=3 and day=2;"), false, 0, 0, -1);
        row(c, oneOfFour("worth 1 when angle=3 and day=2;worth turned;"), false, 1, 1, 1);
        row(c, oneOfFour("worth 1 when angle=1 and day=2;worth turned;"), false, 1, 1, -1);
        row(c, oneOfFour("worth 1 when angle=0 and day=1;worth turned;"), false, 1, -1, 1);
    }

    private static void fairDays(Check c) {
        TurnedIsland x = oneOfFour("worth day+1;");
        c.due("no day", x.fair(0, 0), -1000000);
        c.due("seven days", x.fair(7, 0), -1000000);
        c.due("one day", x.fair(1, 0), 1);
        c.due("six days", x.fair(6, 0), 21);
        c.due("the last turn of six", x.fair(6, 15), 2);
        x.set(1, 29);
        c.due("two days from day 29", x.fair(2, 0), 61);
    }

    /** One who wants to be at 1 and one who wants to be at 3, with what each gets there. */
    private static TurnedIsland apart(int first, int second) {
        TurnedIsland x = oneOfFour("worth " + first + " when angle=1;");
        Check.tell(x, 1, "worth " + second + " when angle=3;");
        x.plot(0, 1, 1, 0);
        return x;
    }

    private static void fairLeast(Check c) {
        TurnedIsland x = apart(7, 2);
        // Three days: at 1 on the first, at 2 on the second, at 3 on the third.
        c.due("together the most", x.best(3, 0), 21);
        c.due("but the least is more", x.fair(3, 0), 2);
        c.due("together then", x.fair(3, 1), 9);
        row(c, x, true, 1, 1, 1);
        c.due("in two days one has nothing", x.fair(2, 0), 0);
        Check.tell(x, 1, "worth 0-2 when turned=1;");
        c.due("less than nothing", x.fair(1, 0), 0);
        row(c, x, true, 0);
        Check.tell(x, 1, "worth 0-2;");
        c.due("if one has less than nothing anyway", x.fair(2, 0), -4);
        c.due("the others may have all they can", x.fair(2, 1), 10);
        TurnedIsland y = new TurnedIsland();
        Check.tell(y, 0, "worth 3;");
        Check.tell(y, 1, "worth turned+1;");
        for (int p = 0; p < 10; p++) {
            y.plot(0, 1, p / 9, 0);
        }
        c.due("the last of ten has least", y.fair(6, 0), 12);
        c.due("all ten together", y.fair(6, 1), 9 * 18 + 12);
    }

    private static void fairMoreTogether(Check c) {
        TurnedIsland x = apart(7, 2);
        c.due("none by any turn for the least", x.fair(1, 0), 0);
        c.due("so 7 together ahead of 2 and of 0", x.fair(1, 1), 7);
        row(c, x, true, 1);
        x = apart(2, 7);
        c.due("so 7 together ahead of 2 and of 0", x.fair(1, 1), 7);
        row(c, x, true, -1);
    }

    private static void fairFirst(Check c) {
        row(c, oneOfFour(""), true, 0, 0, 0, 0, 0, 0);
        row(c, apart(5, 5), true, 1);
        row(c, oneOfFour("worth turned;"), true, 1, 1, 1, 1, 1, 1);
        row(c, oneOfFour("worth 1 when angle=2 and day=3;"), true, 0, 0, 1, 1);
        row(c, oneOfFour("worth 1 when angle=3 and day=2;"), true, 0, 0, -1);
        // As much for the least and together: by three turns on, by one on and two back, and the other way round.
        row(c, apart(5, 5), true, 1, 1, 1);
    }

    private static void aloneDays(Check c) {
        TurnedIsland x = oneOfFour("worth day+1;");
        c.due("no day", x.alone(1, 0), -1000000);
        c.due("seven days", x.alone(1, 7), -1000000);
        c.due("one day", x.alone(1, 1), 1);
        c.due("six days", x.alone(1, 6), 21);
        x.plot(0, 1, 0, 0);
        c.due("two owners together", x.alone(3, 6), 42);
        x.set(1, 29);
        c.due("two days from day 29", x.alone(3, 2), 122);
    }

    private static void aloneWithMoreThanHalf(Check c) {
        TurnedIsland x = oneOfFour("worth 5 when angle=1;worth 0-3 when angle=3;");
        x.plot(2, 1, 0, 0);
        x.plot(0, 1, 4, 0);
        x.set(2, 0);
        c.due("two of three", x.alone(5, 2), 10);
        c.due("the other two", x.alone(6, 2), 10);
        c.due("what both have of a turn", x.alone(3, 2), 4);
        TurnedIsland y = weights(5, 4);
        Check.tell(y, 0, "worth 5 when angle=1;");
        y.plot(0, 1, 0, 0);
        c.due("six of ten", y.alone(5, 1), 5);
    }

    private static void aloneWithoutIt(Check c) {
        TurnedIsland x = weights(4, 5);
        Check.tell(x, 0, "worth 5 when angle=1;worth 0-3 when angle=11;");
        x.plot(0, 1, 0, 0);
        c.due("one of ten", x.alone(4, 2), -6);
        c.due("half, which is five of ten", x.alone(5, 2), -6);
        c.due("six of ten", x.alone(6, 2), 10);
        Check.tell(x, 0, "worth 5 when turned=1;worth 2 when turned=0;");
        c.due("the least is more than nothing", x.alone(4, 3), 6);
        Check.tell(x, 0, "worth 5 when turned=0;worth 2 when turned=1;");
        c.due("the least by turns", x.alone(4, 3), 6);
    }

    private static void payments(Check c) {
        TurnedIsland x = Check.island(10);
        for (int p = 0; p < 10; p++) {
            c.due("at first of " + p, x.look(20 + p), 0);
            c.yes("most", x.pay(p, 99999 - p));
            c.no("more", x.pay(p, 100000));
            c.no("less", x.pay(p, -100000));
        }
        for (int p = 0; p < 10; p++) {
            c.due("of " + p, x.look(20 + p), 99999 - p);
            c.yes("least", x.pay(p, -99999));
            c.due("the least of " + p, x.look(20 + p), -99999);
        }
    }

    /** Weights 2 and 1 at place 0 of six; the first wants to be at 2 and not at 4, the second no turns. */
    private static TurnedIsland pair() {
        TurnedIsland x = new TurnedIsland();
        x.notches(6);
        Check.tell(x, 0, "worth 9 when angle=2;worth 0-9 when angle=4;");
        Check.tell(x, 1, "worth 0-3*turned;");
        x.plot(0, 2, 0, 0);
        x.plot(0, 1, 1, 0);
        return x;
    }

    private static void leaveIfLess(Check c) {
        TurnedIsland x = pair();
        // By best turns of three days they have 18 and -6; alone they could have 18, -9, and both 12.
        c.due("as much is not less", x.leave(3), -1);
        x.pay(0, -1);
        c.due("17 of 18", x.leave(3), 1);
        x.pay(0, 0);
        x.pay(1, -3);
        c.due("-9 of -9 for the second, but both have 9 of 12", x.leave(3), 3);
        x.pay(0, 3);
        c.due("-9 of -9, and 12 of 12", x.leave(3), -1);
        x.pay(0, 4);
        x.pay(1, -4);
        c.due("-10 of -9", x.leave(3), 2);
        x.pay(0, 99999);
        x.pay(1, 99999);
        c.due("who is paid stays", x.leave(3), -1);
        // In one day no turn helps the first: 0, 0 by best turns; 0 and -3 alone.
        x.pay(0, 0);
        x.pay(1, 0);
        c.due("one day", x.leave(1), -1);
        x.pay(0, -1);
        x.pay(1, 1);
        c.due("one day, the first has -1 of 0", x.leave(1), 1);
        c.due("no day", x.leave(0), -1);
        c.due("six days, 44 of 45", x.leave(6), 1);
        c.due("seven days", x.leave(7), -1);
    }

    private static void leaveFewest(Check c) {
        TurnedIsland x = Check.island(10);
        x.pay(9, -1);
        c.due("the last by himself, ahead of all sets with him", x.leave(6), 512);
        TurnedIsland y = pair();
        y.plot(0, 2, 0, 0);
        // Weights 2, 1, 2: by best turns of three days 18, -6, 18; one alone may be left -18, -9, -18.
        y.pay(0, -20);
        y.pay(2, 15);
        c.due("a pair, as none leaves by himself", y.leave(3), 3);
        y.pay(0, -36);
        c.due("-18 of -18 is enough", y.leave(3), 3);
        y.pay(0, -37);
        c.due("-19 is not: he leaves by himself", y.leave(3), 1);
        y.pay(0, -5);
        y.pay(2, -37);
        c.due("the third by himself, ahead of the first two, who are less as a number", y.leave(3), 4);
    }

    private static void leaveLeast(Check c) {
        TurnedIsland x = Check.island(4);
        x.pay(1, -1);
        x.pay(3, -1);
        c.due("1 ahead of 3", x.leave(1), 2);
        x.pay(0, -1);
        c.due("0 ahead of 1", x.leave(1), 1);
        TurnedIsland y = pair();
        y.plot(0, 2, 0, 0);
        // 0 with 1, and 1 with 2, have 11 of 12 each; 0 with 2 have 34 of 36.
        y.pay(0, -1);
        y.pay(2, -1);
        c.due("of three pairs the least", y.leave(3), 3);
        y.pay(0, 0);
        c.due("0 with 2 ahead of 1 with 2", y.leave(3), 5);
    }

    private static void quarrel(Check c, int[] first, int[] second, boolean due) {
        TurnedIsland x = Check.island(2);
        x.promise(first[0], first[1], first[2], first[3]);
        x.promise(second[0], second[1], second[2], second[3]);
        c.due("quarrel() of " + first[2] + " .. " + first[3] + " with " + second[2] + " .. " + second[3], x.quarrel(),
                due ? 1 : -1);
    }

    private static void quarrels(Check c) {
        quarrel(c, new int[] {0, 1, 5, 9}, new int[] {0, -1, 5, 9}, true);
        quarrel(c, new int[] {0, 1, 5, 9}, new int[] {0, 0, 5, 9}, true);
        quarrel(c, new int[] {0, 1, 5, 9}, new int[] {0, 1, 5, 9}, false);
        quarrel(c, new int[] {0, 1, 5, 9}, new int[] {1, -1, 5, 9}, false);
        quarrel(c, new int[] {0, 1, 5, 9}, new int[] {0, -1, 9, 12}, true);
        quarrel(c, new int[] {0, 1, 5, 9}, new int[] {0, -1, 10, 12}, false);
        quarrel(c, new int[] {0, 1, 5, 9}, new int[] {0, -1, 2, 5}, true);
        quarrel(c, new int[] {0, 1, 5, 9}, new int[] {0, -1, 2, 4}, false);
        quarrel(c, new int[] {0, 1, 5, 9}, new int[] {0, -1, 6, 7}, true);
        quarrel(c, new int[] {0, 1, 5, 9}, new int[] {0, -1, 0, 9999}, true);
        quarrel(c, new int[] {0, -1, 9999, 9999}, new int[] {0, 0, 9999, 9999}, true);
    }

    private static void firstQuarrel(Check c) {
        TurnedIsland x = Check.island(2);
        c.due("without promises", x.quarrel(), -1);
        x.promise(0, 1, 0, 9);
        c.due("with one", x.quarrel(), -1);
        x.promise(1, -1, 0, 9);
        x.promise(0, 1, 0, 9);
        x.promise(1, 0, 9, 9);
        c.due("the fourth with the second", x.quarrel(), 3);
        x.promise(0, 0, 0, 0);
        c.due("a fifth that quarrels with the first comes later", x.quarrel(), 3);
        x.drop(3);
        c.due("without the fourth", x.quarrel(), 4);
        x.drop(0);
        c.due("the fifth with the third", x.quarrel(), 4);
        x.drop(2);
        c.due("none", x.quarrel(), -1);
        // The last of 24 with one just ahead of it.
        TurnedIsland y = Check.island(10);
        for (int p = 0; p < 23; p++) {
            y.promise(p % 10, 1, p, p);
        }
        y.promise(2, -1, 22, 22);
        c.due("the last of 24", y.quarrel(), 23);
    }

    private static void noneQuarrel(Check c) {
        TurnedIsland x = Check.island(2);
        c.due("without promises", x.fewest(0), 0);
        x.promise(0, 1, 0, 4);
        x.promise(0, 1, 0, 4);
        x.promise(0, -1, 5, 9);
        c.due("none quarrel: the empty set", x.fewest(0), 0);
        x.promise(0, 0, 4, 5);
        c.due("without the last one none quarrel", x.fewest(0), 8);
        x.drop(3);
        c.due("it is dropped", x.fewest(0), 0);
    }

    private static void fewest(Check c) {
        TurnedIsland x = Check.island(1);
        x.promise(0, 1, 0, 0);
        x.promise(0, 1, 1, 1);
        x.promise(0, 1, 2, 2);
        x.promise(0, -1, 0, 2);
        c.due("one, though three are less as a number", x.fewest(0), 8);
        TurnedIsland y = Check.island(2);
        for (int i = 0; i < 10; i++) {
            y.promise(1, 0, 0, 9999);
        }
        for (int i = 0; i < 10; i++) {
            y.promise(0, i % 3 - 1, 0, 9999);
        }
        c.due("six of ten", y.fewest(0), 1 << 11 | 1 << 12 | 1 << 14 | 1 << 15 | 1 << 17 | 1 << 18);
        c.due("none of the other's ten", y.fewest(1), 0);
        TurnedIsland z = Check.island(1);
        for (int i = 0; i < 9; i++) {
            z.promise(0, 1, i, i);
        }
        z.promise(0, -1, 0, 8);
        c.due("the tenth alone", z.fewest(0), 512);
    }

    private static void fewestLeast(Check c) {
        TurnedIsland x = Check.island(2);
        x.promise(1, 1, 0, 9);
        x.promise(0, 1, 0, 9);
        x.promise(1, -1, 0, 9);
        x.promise(0, -1, 0, 9);
        c.due("of 1 and 3 the least", x.fewest(0), 2);
        c.due("of 0 and 2 the least", x.fewest(1), 1);
        x.promise(0, 0, 0, 9);
        c.due("two of three: the least two", x.fewest(0), 10);
        TurnedIsland y = Check.island(10);
        for (int p = 0; p < 22; p++) {
            y.promise(p % 9, 1, p, p);
        }
        y.promise(9, 1, 0, 9);
        y.promise(9, 0, 0, 9);
        c.due("of the last two of 24", y.fewest(9), 1 << 22);
        y.drop(22);
        c.due("one of them dropped", y.fewest(9), 0);
    }
}
