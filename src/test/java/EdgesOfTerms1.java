/** The use of an object, and the first part of the terms: notches, angles, days, the sky and plots. */
final class EdgesOfTerms1 {
    private EdgesOfTerms1() {
    }

    static void all(Edges e) {
        e.use();
        e.edge("An object is used for at most 512 calls after it has been made;", EdgesOfTerms1::calls512);
        e.edge("what later calls answer is free.", EdgesOfTerms1::laterCallsEnd);
        e.terms(0);
        e.edge("Quotients go downwards.", EdgesOfTerms1::quotientsGoDownwards);
        e.terms(1);
        e.edge("NOTCHES 4 .. 24", EdgesOfTerms1::notches4To24);
        e.edge("(12 at first;", EdgesOfTerms1::notches12AtFirst);
        e.edge("told anew: all is as at first", EdgesOfTerms1::toldAnewAllIsAsAtFirst);
        e.edge("but NOTCHES, the TAPE, fault() and THE IMAGE).", EdgesOfTerms1::whatStaysWhenToldAnew);
        e.edge("ANGLE 0 .. NOTCHES less 1 of the island (0 at first).", EdgesOfTerms1::angle);
        e.edge("DAY 0 .. 9999 (0 at first);", EdgesOfTerms1::day);
        e.edge("its MONTH is DAY by 30 modulo 12.", EdgesOfTerms1::month);
        e.edge("SKY: SUN, WIND, CURRENT by MONTH and angle", EdgesOfTerms1::skyByMonthAndAngle);
        e.edge("-9 .. 9 (0 at first).", EdgesOfTerms1::skyNumbers);
        e.edge("PLOTS 0 .. 9 as they come,", EdgesOfTerms1::plotsAsTheyCome);
        e.edge("each with its owner (of the same number):", EdgesOfTerms1::ownersNumbers);
        e.edge("a PLACE 0 .. NOTCHES less 1,", EdgesOfTerms1::place);
        e.edge("a WEIGHT 1 .. 9,", EdgesOfTerms1::weight);
        e.edge("a WANT 0 .. 3 or none (4),", EdgesOfTerms1::want);
        e.edge("COIN -99999 .. 99999 (told; may go anywhere later).", EdgesOfTerms1::coin);
        e.edge("A PLOT stands at the angle PLACE and ANGLE together modulo NOTCHES.", EdgesOfTerms1::standsAt);
    }

    private static void calls512(Check c) {
        TurnedIsland x = new TurnedIsland();
        x.plot(0, 1, 4, 0);
        x.promise(0, 1, 0, 9999);
        x.set(2, 999);
        for (int call = 4; call <= 511; call++) {
            c.due("noons(1) as call " + call, x.noons(1), 1);
        }
        c.due("look(2) as the 512th call", x.look(2), 508);
        TurnedIsland y = Check.island(10);
        for (int call = 11; call <= 511; call++) {
            y.leave(6);
        }
        c.due("leave(6) as the 512th call", y.leave(6), -1);
    }

    private static void laterCallsEnd(Check c) {
        TurnedIsland x = Check.island(2);
        for (int call = 0; call < 2000; call++) {
            x.noons(1);
            x.sell(0, 1, call, call, 1);
            x.promise(0, 1, 0, 9);
            x.log(0, 0, 0);
            x.feed(0, 0, 0, 0, 0);
        }
        c.yes("calls beyond the 512th come back", true);
    }

    private static TurnedIsland oneWant(String text) {
        TurnedIsland x = new TurnedIsland();
        Check.tell(x, 0, text);
        x.plot(0, 1, 0, 0);
        return x;
    }

    private static void quotientsGoDownwards(Check c) {
        TurnedIsland x = oneWant("worth month;");
        c.due("month of day 29, which by 30 is nearly 1", x.worth(0, 29, 0, 0), 0);
        c.due("month of day 59, which by 30 is nearly 2", x.worth(0, 59, 0, 0), 1);
        c.due("month of day 45, which by 30 is 1 and a half", x.worth(0, 45, 0, 0), 1);
    }

    private static void notches4To24(Check c) {
        for (int n = 4; n <= 24; n++) {
            TurnedIsland x = new TurnedIsland();
            c.yes("notches(" + n + ")", x.notches(n));
            c.due("look(0) behind notches(" + n + ")", x.look(0), n);
        }
        for (int n : new int[] {3, 25, 0, -4, -12, Integer.MIN_VALUE, Integer.MAX_VALUE}) {
            TurnedIsland x = new TurnedIsland();
            c.no("notches(" + n + ")", x.notches(n));
            c.due("look(0) behind notches(" + n + ")", x.look(0), 12);
        }
    }

    private static void notches12AtFirst(Check c) {
        TurnedIsland x = new TurnedIsland();
        c.due("look(0)", x.look(0), 12);
        c.yes("sky at angle 11", x.sky(0, 0, 11, 1));
        c.no("sky at angle 12", x.sky(0, 0, 12, 1));
    }

    /** Everything that can be told is told, and two noons have passed. */
    private static TurnedIsland full() {
        TurnedIsland x = new TurnedIsland();
        for (int k = 0; k < 4; k++) {
            Check.tell(x, k, "worth sun+wind+current+1;");
        }
        for (int what = 0; what < 3; what++) {
            x.sky(what, 0, 0, 5);
            x.sky(what, 11, 11, 5);
        }
        x.plot(0, 3, 0, 40);
        x.plot(0, 4, 4, 50);
        x.set(0, 6);
        x.set(1, 4);
        x.set(2, 7);
        x.set(3, 8);
        x.sell(0, 1, 4, 900, 1);
        x.promise(1, 1, 0, 9999);
        x.promise(1, -1, 0, 9999);
        x.promise(1, 0, 0, 9999);
        x.drop(0);
        x.drop(2);
        x.plan(0, 1);
        x.plan(59, 1);
        x.log(0, 0, 3);
        x.pay(0, 33);
        x.pay(1, 34);
        x.noons(2);
        return x;
    }

    private static void toldAnewAllIsAsAtFirst(Check c) {
        int[] before = {12, 4, 6, 5, 8, 2, 1, 3, 1, 2, 1, 1, 1, 1};
        int[] first = {12, 0, 0, 99, 0, 0, 0, 0, 0, 0, 0, 0, 0, 0};
        TurnedIsland x = full();
        for (int what = 0; what < first.length; what++) {
            c.due("told: look(" + what + ")", x.look(what), before[what]);
        }
        c.due("told: worth", x.worth(0, 0, 0, 0), 16);
        c.yes("notches(12)", x.notches(12));
        for (int what = 0; what < first.length; what++) {
            c.due("as at first: look(" + what + ")", x.look(what), first[what]);
        }
        c.no("nothing can be undone", x.undo());
        c.due("no payments", x.look(20), -100000);
        c.due("rows without logs", x.back(0, 0, 0), 36);
        c.due("a plot", x.plot(0, 3, 0, 0), 0);
        c.due("and another", x.plot(0, 4, 4, 0), 1);
        c.due("payment of 0", x.look(20), 0);
        c.due("payment of 1", x.look(21), 0);
        c.due("the want is empty", x.worth(0, 0, 0, 0), 0);
        Check.tell(x, 0, "worth sun+wind+current;");
        c.due("the sky is empty in the first month", x.worth(0, 0, 0, 0), 0);
        c.due("and in the last", x.worth(0, 359, 11, 0), 0);
        c.due("the plan of day 0", x.boat(0, 0, 1), -1);
        c.due("the plan of day 59", x.boat(0, 59, 1), -1);
        c.due("nothing is sold", x.holder(0, 4), 0);
        c.due("nothing is promised", x.votes(1), 2);
        c.due("the first promise has number 0", x.promise(1, 1, 0, 9), 0);
        c.due("and is not dropped, as the old one was", x.votes(1), 3);
        x.promise(1, -1, 5, 5);
        c.due("nor is the third", x.promise(1, -1, 0, 9), 2);
        c.due("so it quarrels with the first", x.quarrel(), 1);
        c.yes("and can be dropped", x.drop(2));
        x.noons(1);
        c.due("the book has the one day", x.turned(0), 3);
        c.due("and no day ahead of it", x.turned(-1), -1);
        c.due("nor of the days there were", x.turned(4), -1);
    }

    private static void whatStaysWhenToldAnew(Check c) {
        TurnedIsland x = full();
        x.image(true);
        Check.tell(x, 0, "worth 1/0;");
        Check.feed(x, "worth 1;worth 2;");
        c.yes("notches(24)", x.notches(24));
        c.due("NOTCHES are those told", x.look(0), 24);
        c.due("fault(0)", x.fault(0), 2);
        c.due("fault(1)", x.fault(1), 8);
        c.yes("the tape has its 16 bytes", x.end(16));
        c.no("and no more", x.end(17));
        c.due("the tape is what it was", x.text(0), 2);
        c.yes("the image", x.image(false));
        c.due("has its notches", x.look(0), 12);
        c.due("its day", x.look(2), 6);
        c.due("and its plots", x.look(5), 2);
    }

    private static void angle(Check c) {
        c.due("at first", new TurnedIsland().look(1), 0);
        for (int n : new int[] {4, 12, 13, 24}) {
            TurnedIsland x = new TurnedIsland();
            x.notches(n);
            c.yes("set(0, " + (n - 1) + ")", x.set(0, n - 1));
            c.due("angle", x.look(1), n - 1);
            c.no("set(0, " + n + ")", x.set(0, n));
            c.no("set(0, -1)", x.set(0, -1));
            c.due("angle behind what was refused", x.look(1), n - 1);
            c.yes("set(0, 0)", x.set(0, 0));
            c.due("angle", x.look(1), 0);
        }
    }

    private static void day(Check c) {
        TurnedIsland x = new TurnedIsland();
        c.due("at first", x.look(2), 0);
        c.yes("set(1, 9999)", x.set(1, 9999));
        c.due("day", x.look(2), 9999);
        c.no("set(1, 10000)", x.set(1, 10000));
        c.no("set(1, -1)", x.set(1, -1));
        c.due("day behind what was refused", x.look(2), 9999);
        c.yes("set(1, 0)", x.set(1, 0));
        c.due("day", x.look(2), 0);
    }

    private static void month(Check c) {
        TurnedIsland x = oneWant("worth month;");
        int[][] due = {{0, 0}, {29, 0}, {30, 1}, {59, 1}, {60, 2}, {329, 10}, {330, 11}, {359, 11}, {360, 0}, {389, 0},
            {390, 1}, {719, 11}, {720, 0}, {9989, 8}, {9990, 9}, {9999, 9}};
        for (int[] d : due) {
            c.due("month of day " + d[0], x.worth(0, d[0], 0, 0), d[1]);
        }
    }

    private static void skyByMonthAndAngle(Check c) {
        String[] kinds = {"sun", "wind", "current"};
        for (int what = 0; what < 3; what++) {
            TurnedIsland x = new TurnedIsland();
            x.notches(24);
            for (int k = 0; k < 3; k++) {
                Check.tell(x, k, "worth " + kinds[k] + ";");
                x.plot(0, 1, k, 0);
            }
            x.sky(what, 11, 23, 4);
            x.sky(what, 0, 0, 5);
            x.sky(what, 0, 23, 6);
            x.sky(what, 11, 0, 7);
            for (int owner = 0; owner < 3; owner++) {
                int seen = owner == what ? 1 : 0;
                String of = kinds[what] + " told, " + kinds[owner];
                c.due(of + " in month 11 at 23", x.worth(owner, 330, 23, 0), 4 * seen);
                c.due(of + " in month 0 at 0", x.worth(owner, 0, 0, 0), 5 * seen);
                c.due(of + " in month 0 at 23", x.worth(owner, 0, 23, 0), 6 * seen);
                c.due(of + " in month 11 at 0", x.worth(owner, 330, 0, 0), 7 * seen);
                c.due(of + " in month 0 at 1", x.worth(owner, 0, 1, 0), 0);
                c.due(of + " in month 1 at 0", x.worth(owner, 30, 0, 0), 0);
                c.due(of + " in month 10 at 23", x.worth(owner, 300, 23, 0), 0);
            }
        }
    }

    private static void skyNumbers(Check c) {
        TurnedIsland x = new TurnedIsland();
        Check.tell(x, 0, "worth sun+wind*10+current*100;");
        x.plot(0, 1, 0, 0);
        c.due("at first", x.worth(0, 0, 0, 0), 0);
        int[] parts = {1, 10, 100};
        for (int what = 0; what < 3; what++) {
            c.yes("9", x.sky(what, 0, 0, 9));
            c.due("9", x.worth(0, 0, 0, 0), 9 * parts[what]);
            c.no("10", x.sky(what, 0, 0, 10));
            c.no("-10", x.sky(what, 0, 0, -10));
            c.due("9 stays", x.worth(0, 0, 0, 0), 9 * parts[what]);
            c.yes("-9", x.sky(what, 0, 0, -9));
            c.due("-9", x.worth(0, 0, 0, 0), -9 * parts[what]);
            c.yes("0", x.sky(what, 0, 0, 0));
            c.due("0", x.worth(0, 0, 0, 0), 0);
        }
    }

    private static void plotsAsTheyCome(Check c) {
        TurnedIsland x = new TurnedIsland();
        for (int p = 0; p <= 9; p++) {
            c.due("plot that isn't there", x.of(p, 0), -100000);
            c.due("plot", x.plot(p, 1, 4, 0), p);
            c.due("its place", x.of(p, 0), p);
        }
        c.due("the eleventh", x.plot(0, 1, 4, 0), -1);
        c.due("plots", x.look(5), 10);
    }

    private static void ownersNumbers(Check c) {
        TurnedIsland x = new TurnedIsland();
        Check.tell(x, 0, "worth angle+1;");
        for (int p = 0; p < 10; p++) {
            x.plot(p, 1, p % 2 * 4, 0);
        }
        for (int p = 0; p < 10; p++) {
            c.due("holder of " + p, x.holder(p, 0), p);
            c.due("worth to owner " + p, x.worth(p, 0, 0, 0), p % 2 == 0 ? p + 1 : 0);
        }
    }

    private static void place(Check c) {
        for (int n : new int[] {4, 12, 24}) {
            TurnedIsland x = new TurnedIsland();
            x.notches(n);
            c.due("place -1", x.plot(-1, 1, 4, 0), -1);
            c.due("place " + n, x.plot(n, 1, 4, 0), -1);
            c.due("place 0", x.plot(0, 1, 4, 0), 0);
            c.due("place " + (n - 1), x.plot(n - 1, 1, 4, 0), 1);
            c.due("place of 1", x.of(1, 0), n - 1);
        }
    }

    private static void weight(Check c) {
        TurnedIsland x = new TurnedIsland();
        c.due("weight 0", x.plot(0, 0, 4, 0), -1);
        c.due("weight 10", x.plot(0, 10, 4, 0), -1);
        c.due("weight -1", x.plot(0, -1, 4, 0), -1);
        c.due("weight 1", x.plot(0, 1, 4, 0), 0);
        c.due("weight 9", x.plot(0, 9, 4, 0), 1);
        c.due("weight of 0", x.of(0, 1), 1);
        c.due("weight of 1", x.of(1, 1), 9);
    }

    private static void want(Check c) {
        TurnedIsland x = new TurnedIsland();
        for (int k = 0; k < 4; k++) {
            Check.tell(x, k, "worth " + (k + 1) + ";");
        }
        c.due("want -1", x.plot(0, 1, -1, 0), -1);
        c.due("want 5", x.plot(0, 1, 5, 0), -1);
        for (int want = 0; want <= 4; want++) {
            c.due("want " + want, x.plot(0, 1, want, 0), want);
            c.due("want of it", x.of(want, 2), want);
            c.due("worth by want " + want, x.worth(want, 0, 0, 0), want == 4 ? 0 : want + 1);
        }
    }

    private static void coin(Check c) {
        TurnedIsland x = new TurnedIsland();
        Check.tell(x, 0, "worth 9999;");
        Check.tell(x, 1, "worth 0-9999;");
        c.due("coin 100000", x.plot(0, 1, 0, 100000), -1);
        c.due("coin -100000", x.plot(0, 1, 0, -100000), -1);
        c.due("coin 99999", x.plot(0, 1, 0, 99999), 0);
        c.due("coin -99999", x.plot(0, 1, 1, -99999), 1);
        c.due("coin of 0", x.of(0, 3), 99999);
        c.due("coin of 1", x.of(1, 3), -99999);
        x.noons(400);
        c.due("coin of 0 later", x.of(0, 3), 99999 + 400 * 9999);
        c.due("coin of 1 later", x.of(1, 3), -99999 - 400 * 9999);
    }

    private static void standsAt(Check c) {
        for (int n : new int[] {4, 12, 24}) {
            TurnedIsland x = new TurnedIsland();
            x.notches(n);
            x.plot(0, 1, 4, 0);
            x.plot(n - 1, 1, 4, 0);
            for (int angle : new int[] {0, 1, n - 2, n - 1}) {
                x.set(0, angle);
                c.due("place 0 with angle " + angle + " of " + n, x.of(0, 4), angle);
                c.due("place " + (n - 1) + " with angle " + angle, x.of(1, 4), angle == 0 ? n - 1 : angle - 1);
            }
        }
    }
}
