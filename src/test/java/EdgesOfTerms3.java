/** The third part of the terms: noons, sales, promises and the book. */
final class EdgesOfTerms3 {
    private EdgesOfTerms3() {
    }

    static void all(Edges e) {
        e.terms(3);
        votes(e);
        turns(e);
        e.edge("SALES (60 at most):", EdgesOfTerms3::sales60);
        e.edge("a PLOT's vote for the DAYS from .. to", EdgesOfTerms3::soldFromTo);
        e.edge("to another owner,", EdgesOfTerms3::soldToAnother);
        e.edge("for a price 0 .. 9999 that he pays to the owner", EdgesOfTerms3::price);
        e.edge("(COIN may go anywhere);", EdgesOfTerms3::coinMayGoAnywhere);
        e.edge("not for DAYS gone,", EdgesOfTerms3::notForDaysGone);
        e.edge("none of them SOLD already.", EdgesOfTerms3::noneSoldAlready);
        e.edge("PROMISES (24 at most,", EdgesOfTerms3::promises24);
        e.edge("ten of one owner)", EdgesOfTerms3::tenOfOneOwner);
        e.edge("of an owner: a turn for the DAYS from .. to.", EdgesOfTerms3::promisedFromTo);
        e.edge("THE BOOK: turns of the last 400 DAYS at most are kept", EdgesOfTerms3::book400);
        e.edge("(DAY told anew: none).", EdgesOfTerms3::bookWithDayToldAnew);
    }

    private static void votes(Edges e) {
        e.edge("A NOON: each PLOT's vote is cast by its HOLDER: the owner, or to whom it is SOLD on that DAY.",
                EdgesOfTerms3::castByHolder);
        e.edge("A HOLDER votes for the turn that he PROMISED for that DAY", EdgesOfTerms3::votesAsPromised);
        e.edge("(the first such PROMISE that is not DROPPED),", EdgesOfTerms3::firstNotDropped);
        e.edge("else for that by which WORTH of the DAY to him (ANGLE behind the turn) is greatest;",
                EdgesOfTerms3::votesForGreatest);
        e.edge("of several 0 first, then 1, then -1.", EdgesOfTerms3::ofSeveral);
    }

    private static void turns(Edges e) {
        e.edge("A turn 1 or -1 is made, if the WEIGHTS for it are more than half of all,",
                EdgesOfTerms3::moreThanHalf);
        e.edge("and GREASE (0 .. 999; 99 at first) is left:", EdgesOfTerms3::greaseLeft);
        e.edge("ANGLE is one more or less (modulo NOTCHES),", EdgesOfTerms3::angleWrapsAround);
        e.edge("GREASE one less,", EdgesOfTerms3::greaseOneLess);
        e.edge("each HOLDER who voted for it pays PULL (0 .. 99; 0 at first), once.", EdgesOfTerms3::paysPullOnce);
        e.edge("Then each owner gets WORTH of the DAY (with the turn that was made) as COIN.",
                EdgesOfTerms3::getsWorth);
        e.edge("DAY is one more.", EdgesOfTerms3::dayIsOneMore);
    }

    /** Two plots, of which the first has more than half. */
    private static TurnedIsland threeToOne() {
        TurnedIsland x = new TurnedIsland();
        x.plot(0, 3, 4, 0);
        x.plot(0, 1, 4, 0);
        return x;
    }

    private static void turnsOf(Check c, TurnedIsland x, int... due) {
        for (int day = 0; day < due.length; day++) {
            c.due("turned(" + day + ")", x.turned(day), due[day] + 2);
        }
    }

    private static void castByHolder(Check c) {
        TurnedIsland x = threeToOne();
        x.promise(1, 1, 0, 99);
        x.sell(0, 1, 2, 3, 0);
        x.noons(5);
        turnsOf(c, x, 0, 0, 1, 1, 0);
        // The buyer may have sold his own vote: what he holds of others is his none the less.
        TurnedIsland y = threeToOne();
        y.promise(1, -1, 0, 99);
        y.sell(0, 1, 0, 0, 0);
        y.sell(1, 0, 0, 0, 0);
        c.due("vote of 0", y.votes(0), 1);
        c.due("vote of 1", y.votes(1), 2);
        y.noons(1);
        turnsOf(c, y, -1);
    }

    private static void votesAsPromised(Check c) {
        TurnedIsland x = threeToOne();
        x.promise(0, 1, 2, 3);
        x.promise(0, -1, 5, 5);
        x.noons(7);
        turnsOf(c, x, 0, 0, 1, 1, 0, -1, 0);
        TurnedIsland y = new TurnedIsland();
        Check.tell(y, 0, "worth 9 when turned=1;");
        y.plot(0, 1, 0, 0);
        y.promise(0, 0, 0, 0);
        c.due("a promised 0 holds against a want", y.votes(0), 2);
        c.due("no turn", y.noons(1), 0);
        c.due("a day later the want counts", y.votes(0), 3);
    }

    private static void firstNotDropped(Check c) {
        TurnedIsland x = threeToOne();
        x.promise(1, 1, 0, 99);
        x.promise(0, -1, 5, 6);
        x.promise(0, 1, 6, 7);
        x.promise(0, -1, 7, 8);
        int[][] due = {{4, 2}, {5, 1}, {6, 1}, {7, 3}, {8, 1}, {9, 2}};
        for (int[] d : due) {
            x.set(1, d[0]);
            c.due("vote on day " + d[0], x.votes(0), d[1]);
        }
        x.drop(1);
        x.set(1, 5);
        c.due("vote on day 5, the first dropped", x.votes(0), 2);
        x.set(1, 6);
        c.due("vote on day 6, the first dropped", x.votes(0), 3);
        x.drop(2);
        c.due("vote on day 6, both dropped", x.votes(0), 2);
        x.set(1, 7);
        c.due("vote on day 7, the second dropped", x.votes(0), 1);
    }

    private static void votesForGreatest(Check c) {
        TurnedIsland x = new TurnedIsland();
        Check.tell(x, 0, "worth sun-3*turned;");
        x.plot(11, 1, 0, 0);
        x.set(0, 1);
        // The plot stands at 0; a turn brings it to 1 or 11.
        x.sky(0, 0, 1, 4);
        c.due("4 less 3 is more than 0", x.votes(0), 3);
        x.sky(0, 0, 11, 5);
        c.due("5 is more than 4", x.votes(0), 1);
        x.sky(0, 0, 0, 2);
        c.due("5 less 3 is no more than 2", x.votes(0), 2);
        x.sky(0, 0, 0, 1);
        c.due("but more than 1", x.votes(0), 1);
        x.set(1, 30);
        c.due("in another month nothing is there", x.votes(0), 2);
        x.set(1, 359);
        c.due("nor in the last month", x.votes(0), 2);
        x.set(1, 360);
        c.due("in the first month again", x.votes(0), 1);
    }

    private static void ofSeveral(Check c) {
        TurnedIsland x = new TurnedIsland();
        Check.tell(x, 0, "worth sun;");
        x.plot(0, 1, 0, 0);
        c.due("all three as good: 0", x.votes(0), 2);
        x.sky(0, 0, 0, -1);
        c.due("1 and -1 as good: 1", x.votes(0), 3);
        x.sky(0, 0, 1, -1);
        c.due("-1 by itself", x.votes(0), 1);
        x.sky(0, 0, 0, 0);
        c.due("0 and -1 as good: 0", x.votes(0), 2);
        x.sky(0, 0, 1, 0);
        x.sky(0, 0, 11, -1);
        c.due("0 and 1 as good: 0", x.votes(0), 2);
    }

    /** How a noon turns if the owners of these weights vote like this. */
    private static void carried(Check c, int[] weights, int[] votes, int turn) {
        TurnedIsland x = new TurnedIsland();
        StringBuilder told = new StringBuilder("turn by");
        for (int p = 0; p < weights.length; p++) {
            x.plot(0, weights[p], 4, 0);
            x.promise(p, votes[p], 0, 0);
            told.append(' ').append(weights[p]).append(" for ").append(votes[p]);
        }
        c.due("noons(1)", x.noons(1), Math.abs(turn));
        c.due(told.toString(), x.turned(0), turn + 2);
        c.due("angle", x.look(1), (12 + turn) % 12);
        c.due("grease", x.look(3), 99 - Math.abs(turn));
    }

    private static void moreThanHalf(Check c) {
        for (int turn = -1; turn <= 1; turn += 2) {
            carried(c, new int[] {1}, new int[] {turn}, turn);
            carried(c, new int[] {1, 1}, new int[] {turn, 0}, 0);
            carried(c, new int[] {1, 1}, new int[] {turn, -turn}, 0);
            carried(c, new int[] {1, 1}, new int[] {turn, turn}, turn);
            carried(c, new int[] {5, 4}, new int[] {turn, -turn}, turn);
            carried(c, new int[] {5, 4}, new int[] {0, turn}, 0);
            carried(c, new int[] {9, 8, 1}, new int[] {turn, 0, 0}, 0);
            carried(c, new int[] {9, 8, 1}, new int[] {turn, 0, turn}, turn);
            // Most of the votes, but not more than half of all.
            carried(c, new int[] {4, 3, 3}, new int[] {turn, 0, -turn}, 0);
            carried(c, new int[] {2, 1, 1}, new int[] {turn, 0, -turn}, 0);
        }
        carried(c, new int[] {1}, new int[] {0}, 0);
        carried(c, new int[0], new int[0], 0);
    }

    private static void greaseLeft(Check c) {
        TurnedIsland x = Check.island(1);
        c.due("at first", x.look(3), 99);
        x.promise(0, 1, 0, 9999);
        c.no("set(2, -1)", x.set(2, -1));
        c.no("set(2, 1000)", x.set(2, 1000));
        c.due("99 stay", x.look(3), 99);
        c.yes("set(2, 0)", x.set(2, 0));
        c.due("no turn without grease", x.noons(1), 0);
        c.due("turned(0)", x.turned(0), 2);
        c.due("angle", x.look(1), 0);
        c.due("grease", x.look(3), 0);
        c.yes("set(2, 1)", x.set(2, 1));
        c.due("one turn with one", x.noons(2), 1);
        c.due("angle", x.look(1), 1);
        c.due("grease", x.look(3), 0);
        c.yes("set(2, 999)", x.set(2, 999));
        c.due("grease", x.look(3), 999);
        TurnedIsland y = Check.island(1);
        y.promise(0, 1, 0, 9999);
        c.due("99 turns at first", y.noons(200), 99);
    }

    private static void angleWrapsAround(Check c) {
        for (int n : new int[] {4, 12, 24}) {
            TurnedIsland x = new TurnedIsland();
            x.notches(n);
            x.plot(0, 1, 4, 0);
            x.promise(0, -1, 0, 1);
            x.promise(0, 1, 2, 9999);
            x.noons(1);
            c.due("one less than 0 of " + n, x.look(1), n - 1);
            x.noons(1);
            c.due("one less than " + (n - 1), x.look(1), n - 2);
            x.noons(1);
            c.due("one more than " + (n - 2), x.look(1), n - 1);
            x.noons(1);
            c.due("one more than " + (n - 1), x.look(1), 0);
            x.noons(1);
            c.due("one more than 0", x.look(1), 1);
        }
    }

    private static void greaseOneLess(Check c) {
        TurnedIsland x = Check.island(1);
        x.promise(0, 1, 0, 0);
        x.promise(0, -1, 1, 1);
        x.noons(1);
        c.due("behind a turn of 1", x.look(3), 98);
        x.noons(1);
        c.due("behind a turn of -1", x.look(3), 97);
        x.noons(1);
        c.due("behind no turn", x.look(3), 97);
    }

    private static void paysPullOnce(Check c) {
        TurnedIsland x = new TurnedIsland();
        for (int p = 0; p < 5; p++) {
            x.plot(0, 1, 4, 0);
        }
        c.due("at first", x.look(4), 0);
        x.promise(0, 1, 0, 9);
        x.promise(1, 1, 0, 9);
        x.promise(2, 1, 0, 9);
        x.promise(4, -1, 0, 9);
        x.sell(1, 0, 0, 9, 0);
        x.sell(2, 0, 0, 9, 0);
        x.sell(3, 2, 0, 9, 0);
        x.noons(1);
        c.due("nothing is paid at first", x.of(0, 3), 0);
        c.no("set(3, -1)", x.set(3, -1));
        c.no("set(3, 100)", x.set(3, 100));
        c.yes("set(3, 99)", x.set(3, 99));
        c.due("a turn", x.noons(1), 1);
        c.due("0 holds three votes and pays once", x.of(0, 3), -99);
        c.due("1 sold his vote", x.of(1, 3), 0);
        c.due("2 sold his own, but holds another's", x.of(2, 3), -99);
        c.due("3 sold his vote", x.of(3, 3), 0);
        c.due("4 voted against it", x.of(4, 3), 0);
        x.set(2, 0);
        x.noons(1);
        c.due("no turn is made, none pays", x.of(0, 3), -99);
        x.set(2, 9);
        c.yes("set(3, 0)", x.set(3, 0));
        x.noons(1);
        c.due("pull is 0 again", x.of(0, 3), -99);
        TurnedIsland y = Check.island(3);
        y.set(3, 10);
        y.promise(1, -1, 0, 0);
        y.promise(2, -1, 0, 0);
        y.noons(1);
        c.due("0 voted for no turn", y.of(0, 3), 0);
        c.due("1 voted for it", y.of(1, 3), -10);
        c.due("2 voted for it", y.of(2, 3), -10);
        TurnedIsland z = Check.island(10);
        z.set(3, 10);
        for (int p = 0; p < 10; p++) {
            z.promise(p, 1, 0, 0);
        }
        z.noons(1);
        for (int p = 0; p < 10; p++) {
            c.due("all ten voted for it: " + p, z.of(p, 3), -10);
        }
    }

    private static void getsWorth(Check c) {
        TurnedIsland x = new TurnedIsland();
        Check.tell(x, 0, "worth 1000*turned+100*angle+day;");
        x.plot(0, 3, 0, 0);
        x.plot(1, 1, 0, 0);
        x.promise(0, 1, 0, 99);
        x.noons(1);
        c.due("with the turn, behind it", x.of(0, 3), 1100);
        c.due("also to one who didn't vote for it", x.of(1, 3), 1200);
        x.set(2, 0);
        x.noons(1);
        c.due("voted for a turn, but none was made", x.of(0, 3), 1100 + 101);
        c.due("the other", x.of(1, 3), 1200 + 201);
        x.set(2, 9);
        x.sell(0, 1, 2, 9, 0);
        x.promise(1, 1, 2, 2);
        x.noons(1);
        c.due("it is the owner's, not the holder's", x.of(0, 3), 1201 + 1202);
        c.due("the holder has his own alone", x.of(1, 3), 1401 + 1302);
    }

    private static void dayIsOneMore(Check c) {
        TurnedIsland x = new TurnedIsland();
        x.noons(1);
        c.due("without plots", x.look(2), 1);
        x.set(1, 9998);
        x.noons(1);
        c.due("to the last day", x.look(2), 9999);
        c.due("and no further", x.noons(1), -1);
        c.due("day", x.look(2), 9999);
    }

    private static void sales60(Check c) {
        TurnedIsland x = Check.island(10);
        for (int s = 0; s < 60; s++) {
            c.yes("sale " + s, x.sell(s % 10, (s + 1) % 10, s, s, 0));
        }
        c.no("the 61st", x.sell(0, 1, 100, 100, 0));
        c.due("sales", x.look(6), 60);
        c.due("the 61st's day", x.holder(0, 100), 0);
        c.due("the 60th's day", x.holder(9, 59), 0);
        c.due("the first's day", x.holder(0, 0), 1);
        x.noons(70);
        c.no("days gone make no room", x.sell(0, 1, 100, 100, 0));
    }

    private static void soldFromTo(Check c) {
        TurnedIsland x = Check.island(2);
        c.yes("one day", x.sell(0, 1, 5, 5, 0));
        c.yes("days to the last", x.sell(0, 1, 9990, 9999, 0));
        c.yes("today", x.sell(0, 1, 0, 1, 0));
        c.no("until ahead of from", x.sell(0, 1, 20, 19, 0));
        c.no("beyond the last day", x.sell(0, 1, 9000, 10000, 0));
        int[][] due = {{0, 1}, {1, 1}, {2, 0}, {4, 0}, {5, 1}, {6, 0}, {9989, 0}, {9990, 1}, {9999, 1}};
        for (int[] d : due) {
            c.due("holder of 0 on day " + d[0], x.holder(0, d[0]), d[1]);
            c.due("holder of 1 on day " + d[0], x.holder(1, d[0]), 1);
        }
    }

    private static void soldToAnother(Check c) {
        TurnedIsland x = Check.island(2);
        c.no("to himself", x.sell(0, 0, 0, 0, 0));
        c.no("the other to himself", x.sell(1, 1, 0, 0, 0));
        c.no("to one who isn't there", x.sell(0, 2, 0, 0, 0));
        c.no("to -1", x.sell(0, -1, 0, 0, 0));
        c.due("none is sold", x.look(6), 0);
        c.yes("to the other", x.sell(0, 1, 0, 0, 0));
        c.yes("and his to this one", x.sell(1, 0, 0, 0, 0));
    }

    private static void price(Check c) {
        TurnedIsland x = Check.island(3);
        c.no("-1", x.sell(0, 1, 0, 0, -1));
        c.no("10000", x.sell(0, 1, 0, 0, 10000));
        c.due("nothing is paid", x.of(0, 3), 0);
        c.due("by none", x.of(1, 3), 0);
        c.yes("0", x.sell(0, 1, 0, 0, 0));
        c.due("0 is paid", x.of(0, 3), 0);
        c.yes("9999", x.sell(0, 1, 1, 1, 9999));
        c.due("the owner gets 9999", x.of(0, 3), 9999);
        c.due("the buyer pays 9999", x.of(1, 3), -9999);
        c.due("a third has nothing of it", x.of(2, 3), 0);
    }

    private static void coinMayGoAnywhere(Check c) {
        TurnedIsland x = new TurnedIsland();
        x.plot(0, 1, 4, 99999);
        x.plot(0, 1, 4, -99999);
        c.yes("a sale to one who has less than nothing", x.sell(0, 1, 0, 0, 9999));
        c.due("more than can be told", x.of(0, 3), 109998);
        c.due("less than can be told", x.of(1, 3), -109998);
    }

    private static void notForDaysGone(Check c) {
        TurnedIsland x = Check.island(2);
        x.noons(10);
        c.no("yesterday", x.sell(0, 1, 9, 9, 0));
        c.no("from yesterday", x.sell(0, 1, 9, 20, 0));
        c.yes("today", x.sell(0, 1, 10, 10, 0));
        x.set(1, 9999);
        c.no("the day ahead of the last", x.sell(0, 1, 9998, 9999, 0));
        c.yes("the last day", x.sell(0, 1, 9999, 9999, 0));
        x.set(1, 3);
        c.yes("days that are to come again", x.sell(0, 1, 3, 9, 0));
    }

    private static void noneSoldAlready(Check c) {
        TurnedIsland x = Check.island(3);
        x.sell(0, 1, 10, 20, 0);
        int[][] taken = {{10, 20}, {5, 10}, {20, 25}, {12, 15}, {5, 25}, {10, 10}, {20, 20}};
        for (int[] t : taken) {
            c.no("days " + t[0] + " .. " + t[1], x.sell(0, 2, t[0], t[1], 0));
        }
        c.due("one sale", x.look(6), 1);
        c.yes("up to the day ahead", x.sell(0, 2, 5, 9, 0));
        c.yes("from the day behind", x.sell(0, 2, 21, 25, 0));
        c.no("sold by the second", x.sell(0, 1, 9, 9, 0));
        c.no("sold by the third", x.sell(0, 1, 21, 21, 0));
        c.yes("another plot on the same days", x.sell(1, 0, 10, 20, 0));
        c.due("holder on day 9", x.holder(0, 9), 2);
        c.due("holder on day 10", x.holder(0, 10), 1);
        c.due("holder on day 20", x.holder(0, 20), 1);
        c.due("holder on day 21", x.holder(0, 21), 2);
    }

    private static void promises24(Check c) {
        TurnedIsland x = Check.island(10);
        for (int p = 0; p < 24; p++) {
            c.due("promise", x.promise(p % 10, 1, p, p), p);
        }
        c.due("the 25th", x.promise(9, 1, 0, 0), -1);
        c.due("promises told", x.look(7), 24);
        x.drop(0);
        c.due("a dropped one was told none the less", x.promise(9, 1, 0, 0), -1);
        x.set(1, 23);
        c.due("the 24th holds", x.votes(3), 3);
        c.yes("and can be dropped", x.drop(23));
        c.due("then it doesn't", x.votes(3), 2);
    }

    private static void tenOfOneOwner(Check c) {
        TurnedIsland x = Check.island(2);
        for (int p = 0; p < 10; p++) {
            c.due("promise", x.promise(0, 1, p, p), p);
        }
        c.due("the eleventh of owner 0", x.promise(0, 1, 20, 20), -1);
        x.drop(3);
        c.due("a dropped one was his none the less", x.promise(0, 1, 20, 20), -1);
        c.due("promises told", x.look(7), 10);
        for (int p = 10; p < 20; p++) {
            c.due("promise of another", x.promise(1, -1, 0, 9), p);
        }
        c.due("the eleventh of owner 1", x.promise(1, 1, 20, 20), -1);
        x.set(1, 9);
        c.due("the tenth holds", x.votes(0), 3);
    }

    private static void promisedFromTo(Check c) {
        TurnedIsland x = Check.island(1);
        x.promise(0, 1, 5, 5);
        x.promise(0, -1, 9998, 9999);
        int[][] due = {{4, 2}, {5, 3}, {6, 2}, {9997, 2}, {9998, 1}, {9999, 1}};
        for (int[] d : due) {
            x.set(1, d[0]);
            c.due("vote on day " + d[0], x.votes(0), d[1]);
        }
    }

    private static void book400(Check c) {
        TurnedIsland x = Check.island(1);
        x.set(2, 999);
        x.promise(0, 1, 0, 0);
        x.promise(0, -1, 1, 1);
        x.promise(0, 1, 399, 400);
        x.noons(399);
        c.due("day 0 of 399", x.turned(0), 3);
        x.noons(1);
        c.due("day 0 of 400", x.turned(0), 3);
        c.due("day 399 of 400", x.turned(399), 3);
        x.noons(1);
        c.due("day 0 of 401", x.turned(0), -1);
        c.due("day 1 of 401", x.turned(1), 1);
        c.due("day 400 of 401", x.turned(400), 3);
        x.noons(400);
        c.due("day 400 of 801", x.turned(400), -1);
        c.due("day 401 of 801", x.turned(401), 2);
        c.due("day 800 of 801", x.turned(800), 2);
        x.undo();
        c.due("day 400, with the last noon undone", x.turned(400), 3);
        c.due("day 399, with the last noon undone", x.turned(399), -1);
        c.due("day 800, with the last noon undone", x.turned(800), -1);
    }

    private static void bookWithDayToldAnew(Check c) {
        TurnedIsland x = Check.island(1);
        x.noons(5);
        c.due("day 4", x.turned(4), 2);
        x.set(1, 5);
        c.due("day 4, the same day told", x.turned(4), -1);
        x.noons(1);
        c.due("day 5", x.turned(5), 2);
        c.due("day 4 still", x.turned(4), -1);
        x.set(1, 3);
        c.due("day 2, an earlier day told", x.turned(2), -1);
        c.due("day 5, an earlier day told", x.turned(5), -1);
        x.noons(1);
        x.set(0, 1);
        x.set(2, 1);
        x.set(3, 1);
        c.due("day 3, what else is told", x.turned(3), 2);
        c.no("a day that can't be", x.set(1, 10000));
        c.due("day 3, a day refused", x.turned(3), 2);
    }
}
