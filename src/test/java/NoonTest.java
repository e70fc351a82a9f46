/** Promises 11 and 14 to 18 and 30: sales, votes, noons, the book and days undone. */
public final class NoonTest {
    private static final Check CHECK = new Check();

    public static void main(String[] args) {
        promise11Sell();
        promise14Votes();
        promise15Holder();
        promise16Noons();
        pullIsPaidOnce();
        halfIsNotEnough();
        promise18Turned();
        promise30Undo();
        whatForgets();
        CHECK.close();
    }

    private static TurnedIsland island(int plots, int want) {
        TurnedIsland x = new TurnedIsland();
        for (int p = 0; p < plots; p++) {
            x.plot(p, 1, want, 0);
        }
        return x;
    }

    private static void promise11Sell() {
        TurnedIsland x = island(3, 4);
        x.set(1, 10);
        int[][] wrong = {{-1, 0, 10, 10, 0}, {3, 0, 10, 10, 0}, {0, -1, 10, 10, 0}, {0, 3, 10, 10, 0},
            {0, 0, 10, 10, 0}, {0, 1, 9, 10, 0}, {0, 1, 11, 10, 0}, {0, 1, 10, 10000, 0}, {0, 1, 10, 10, -1},
            {0, 1, 10, 10, 10000}, {0, 1, Integer.MIN_VALUE, Integer.MAX_VALUE, 0}};
        for (int[] w : wrong) {
            CHECK.no("sell out of range", x.sell(w[0], w[1], w[2], w[3], w[4]));
        }
        CHECK.due("none is sold", x.look(6), 0);
        CHECK.yes("sell today", x.sell(0, 1, 10, 10, 9999));
        CHECK.due("the buyer pays", x.of(1, 3), -9999);
        CHECK.due("the owner gets it", x.of(0, 3), 9999);
        CHECK.yes("sell to the last day", x.sell(0, 2, 9990, 9999, 0));
        CHECK.no("sold at its first day", x.sell(0, 2, 11, 9990, 0));
        CHECK.no("sold at its last day", x.sell(0, 2, 9999, 9999, 0));
        CHECK.no("sold within", x.sell(0, 2, 5000, 9999, 0));
        CHECK.yes("between", x.sell(0, 2, 11, 9989, 0));
        CHECK.yes("another plot", x.sell(1, 0, 10, 10, 0));
        CHECK.due("sales", x.look(6), 4);
        for (int i = 4; i < 60; i++) {
            CHECK.yes("sale " + i, x.sell(2, 0, 10 + i, 10 + i, 1));
        }
        CHECK.no("a 61st", x.sell(2, 0, 900, 900, 1));
        CHECK.due("sixty sales", x.look(6), 60);
        CHECK.due("56 coins", x.of(2, 3), 56);
    }

    private static void promise14Votes() {
        TurnedIsland x = new TurnedIsland();
        Check.tell(x, 0, "worth sun;");
        Check.tell(x, 1, "worth sun-turned*3;");
        CHECK.due("votes without plots", x.votes(0), -1);
        x.plot(0, 1, 0, 0);
        x.plot(0, 1, 1, 0);
        x.plot(0, 1, 4, 0);
        CHECK.due("of several 0 first", x.votes(0), 2);
        x.sky(0, 0, 11, 2);
        CHECK.due("a turn back", x.votes(0), 1);
        CHECK.due("not if the turn costs more", x.votes(1), 2);
        x.sky(0, 0, 1, 2);
        CHECK.due("of several 1 ahead of -1", x.votes(0), 3);
        x.sky(0, 0, 0, 2);
        CHECK.due("and 0 ahead of both", x.votes(0), 2);
        CHECK.due("without a want", x.votes(2), 2);
        x.promise(0, -1, 0, 3);
        x.promise(0, 1, 0, 5);
        CHECK.due("the first promise", x.votes(0), 1);
        x.drop(0);
        CHECK.due("the first that is not dropped", x.votes(0), 3);
        x.promise(2, 0, 0, 0);
        x.sell(0, 2, 0, 0, 0);
        CHECK.due("the buyer's promise", x.votes(0), 2);
        x.sell(2, 0, 0, 0, 0);
        CHECK.due("votes are not handed on", x.votes(2), 3);
        CHECK.due("votes(3)", x.votes(3), -1);
        CHECK.due("votes(-1)", x.votes(-1), -1);
        x.set(2, 0);
        CHECK.due("votes don't ask for grease", x.votes(2), 3);
        x.set(1, 9999);
        CHECK.due("votes on the last day", x.votes(0), 2);
    }

    private static void promise15Holder() {
        TurnedIsland x = island(3, 4);
        x.sell(1, 2, 5, 7, 0);
        x.sell(2, 0, 6, 6, 0);
        int[] due = {1, 2, 2, 2, 1};
        for (int i = 0; i < 5; i++) {
            CHECK.due("holder on day " + (4 + i), x.holder(1, 4 + i), due[i]);
        }
        CHECK.due("the buyer may have sold his own", x.holder(2, 6), 0);
        x.set(1, 100);
        CHECK.due("days gone are told", x.holder(1, 5), 2);
        CHECK.due("holder(1, -1)", x.holder(1, -1), -1);
        CHECK.due("holder(1, 10000)", x.holder(1, 10000), -1);
        CHECK.due("holder(1, 9999)", x.holder(1, 9999), 1);
        CHECK.due("holder(3, 5)", x.holder(3, 5), -1);
        CHECK.due("holder(-1, 5)", x.holder(-1, 5), -1);
    }

    private static void promise16Noons() {
        TurnedIsland x = new TurnedIsland();
        Check.tell(x, 0, "worth angle+turned*100+day*1000;");
        x.plot(3, 2, 0, 5);
        x.plot(0, 1, 4, 7);
        x.set(3, 10);
        x.promise(0, -1, 0, 1);
        x.promise(0, 0, 2, 9999);
        for (int n : new int[] {0, -1, 401, Integer.MAX_VALUE, Integer.MIN_VALUE}) {
            CHECK.due("noons(" + n + ")", x.noons(n), -1);
        }
        CHECK.due("noons(3)", x.noons(3), 2);
        CHECK.due("angle", x.look(1), 10);
        CHECK.due("grease", x.look(3), 97);
        CHECK.due("day", x.look(2), 3);
        // 102 and 1101 with a turn, 2001 without; two pulls.
        CHECK.due("coin", x.of(0, 3), 5 + 102 + 1101 + 2001 - 20);
        CHECK.due("coin of one without a want", x.of(1, 3), 7);
        CHECK.due("noons(400)", x.noons(400), 0);
        x.set(1, 9599);
        CHECK.due("up to the last day", x.noons(400), 0);
        CHECK.due("the last day", x.look(2), 9999);
        CHECK.due("no further", x.noons(1), -1);
        CHECK.due("it stays", x.look(2), 9999);
        x.set(1, 9990);
        CHECK.due("ten are too many", x.noons(10), -1);
        CHECK.due("nothing is done", x.look(2), 9990);
        grease();
    }

    private static void grease() {
        TurnedIsland x = island(1, 4);
        x.promise(0, 1, 0, 9999);
        x.set(2, 3);
        CHECK.due("three turns of grease", x.noons(10), 3);
        CHECK.due("none is left", x.look(3), 0);
        CHECK.due("angle", x.look(1), 3);
        x.set(2, 999);
        CHECK.due("round and round", x.noons(400), 400);
        CHECK.due("grease less 400", x.look(3), 599);
        CHECK.due("angle round", x.look(1), 403 % 12);
    }

    private static void pullIsPaidOnce() {
        TurnedIsland x = island(4, 4);
        x.set(3, 7);
        x.promise(1, 1, 0, 9);
        x.promise(3, 1, 0, 9);
        x.sell(0, 1, 0, 9, 0);
        CHECK.due("a turn", x.noons(1), 1);
        int[] due = {0, -7, 0, -7};
        for (int p = 0; p < 4; p++) {
            CHECK.due("coin of " + p, x.of(p, 3), due[p]);
        }
        x.promise(3, 0, 0, 9);
        x.drop(1);
        CHECK.due("no turn, no pull", x.noons(1), 0);
        CHECK.due("coin is as it was", x.of(1, 3), -7);
    }

    private static void halfIsNotEnough() {
        TurnedIsland x = new TurnedIsland();
        x.plot(0, 4, 4, 0);
        x.plot(0, 4, 4, 0);
        x.promise(0, 1, 0, 99);
        CHECK.due("half is not enough", x.noons(1), 0);
        x.promise(1, -1, 1, 1);
        CHECK.due("half against half", x.noons(1), 0);
        x.plot(0, 1, 4, 0);
        CHECK.due("four of nine", x.noons(1), 0);
        x.promise(2, 1, 3, 3);
        CHECK.due("five of nine", x.noons(1), 1);
        CHECK.due("the turn is told", x.turned(3), 3);
    }

    private static void promise18Turned() {
        TurnedIsland x = island(1, 4);
        x.promise(0, 1, 0, 4);
        x.promise(0, -1, 6, 9);
        CHECK.due("nothing is kept", x.turned(0), -1);
        x.noons(10);
        for (int day = 0; day < 10; day++) {
            CHECK.due("turned(" + day + ")", x.turned(day), day < 5 ? 3 : day == 5 ? 2 : 1);
        }
        CHECK.due("today", x.turned(10), -1);
        CHECK.due("turned(-1)", x.turned(-1), -1);
        CHECK.due("turned(least)", x.turned(Integer.MIN_VALUE), -1);
        CHECK.due("turned(most)", x.turned(Integer.MAX_VALUE), -1);
        x.noons(390);
        CHECK.due("400 days are kept", x.turned(0), 3);
        x.noons(1);
        CHECK.due("not 401", x.turned(0), -1);
        CHECK.due("the next is", x.turned(1), 3);
        x.undo();
        CHECK.due("undone, it is kept again", x.turned(0), 3);
        CHECK.due("and the day is not", x.turned(400), -1);
        x.noons(5);
        x.noons(5);
        CHECK.due("gone again", x.turned(9), -1);
        for (int i = 0; i < 10; i++) {
            x.undo();
        }
        for (int day = 0; day < 10; day++) {
            CHECK.due("ten days back: turned(" + day + ")", x.turned(day), day < 5 ? 3 : day == 5 ? 2 : 1);
        }
    }

    private static void promise30Undo() {
        TurnedIsland x = new TurnedIsland();
        Check.tell(x, 0, "worth 3;");
        x.plot(0, 1, 0, 0);
        x.promise(0, 1, 0, 99);
        x.set(3, 1);
        CHECK.no("nothing to undo", x.undo());
        x.noons(12);
        CHECK.due("ten are kept", x.look(9), 10);
        Check.tell(x, 0, "worth 50;");
        for (int i = 1; i <= 10; i++) {
            CHECK.yes("undo", x.undo());
            CHECK.due("day", x.look(2), 12 - i);
            CHECK.due("angle", x.look(1), (12 - i) % 12);
            CHECK.due("grease", x.look(3), 99 - 12 + i);
            CHECK.due("coin as it was, whatever the text is now", x.of(0, 3), 2 * (12 - i));
            CHECK.due("left", x.look(9), 10 - i);
        }
        CHECK.no("no more", x.undo());
        CHECK.due("the text stays", x.worth(0, 0, 0, 0), 50);
        x.noons(2);
        x.undo();
        x.noons(1);
        CHECK.due("undone noons are none any more", x.look(9), 2);
        x.undo();
        x.undo();
        CHECK.due("day", x.look(2), 2);
        CHECK.due("coin", x.of(0, 3), 4);
    }

    private static void whatForgets() {
        String[] calls = {"sky", "plot", "angle", "grease", "pull", "day", "sell", "promise", "drop", "notches",
            "image(false)"};
        for (int call = 0; call < calls.length; call++) {
            TurnedIsland x = ready();
            CHECK.yes(calls[call] + " is told", told(x, call));
            CHECK.due(calls[call] + " forgets", x.look(9), 0);
            CHECK.no(calls[call] + ": undo()", x.undo());
        }
        TurnedIsland x = ready();
        x.plan(3, 1);
        x.log(3, 0, 1);
        x.pay(0, 1);
        Check.tell(x, 2, "worth 1;");
        Check.tell(x, 2, "worth");
        x.best(3, 0);
        x.image(true);
        CHECK.due("plans, logs, payments, texts and an image taken don't forget", x.look(9), 3);
        x.sky(0, 0, 0, 10);
        x.plot(0, 0, 0, 0);
        x.set(0, 12);
        x.sell(0, 0, 3, 3, 0);
        x.promise(0, 2, 3, 3);
        x.drop(7);
        x.notches(3);
        x.noons(0);
        CHECK.due("what is refused doesn't forget", x.look(9), 3);
    }

    private static TurnedIsland ready() {
        TurnedIsland x = island(2, 4);
        x.promise(0, 1, 0, 9);
        x.image(true);
        x.noons(3);
        CHECK.due("three can be undone", x.look(9), 3);
        return x;
    }

    private static boolean told(TurnedIsland x, int call) {
        switch (call) {
            case 0:
                return x.sky(0, 0, 0, 0);
            case 1:
                return x.plot(0, 1, 0, 0) == 2;
            case 2:
                return x.set(0, 0);
            case 3:
                return x.set(2, 99);
            case 4:
                return x.set(3, 0);
            case 5:
                return x.set(1, 3);
            case 6:
                return x.sell(0, 1, 3, 3, 0);
            case 7:
                return x.promise(0, 1, 3, 3) == 1;
            case 8:
                return x.drop(0);
            case 9:
                return x.notches(12);
            default:
                return x.image(false);
        }
    }
}
