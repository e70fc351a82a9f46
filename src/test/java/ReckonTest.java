/** Promises 17, 19 to 21 and 23: what votes, turns and sets of owners are worth. */
public final class ReckonTest {
    private static final Check CHECK = new Check();

    public static void main(String[] args) {
        promise17Of();
        promise17Powers();
        promise19Best();
        promise20Fair();
        promise21Alone();
        promise23Leave();
        lastDays();
        CHECK.close();
    }

    private static void promise17Of() {
        TurnedIsland x = new TurnedIsland();
        x.notches(5);
        x.plot(4, 9, 4, -7);
        x.set(0, 3);
        int[] due = {4, 9, 4, -7, 2, 1, 1};
        for (int what = 0; what < due.length; what++) {
            CHECK.due("of(0, " + what + ")", x.of(0, what), due[what]);
        }
        CHECK.due("of(0, 7)", x.of(0, 7), -100000);
        CHECK.due("of(0, -1)", x.of(0, -1), -100000);
        CHECK.due("of(1, 0)", x.of(1, 0), -100000);
        CHECK.due("of(-1, 0)", x.of(-1, 0), -100000);
    }

    private static void powers(int[] weights, int[] pivots, int[] swings) {
        TurnedIsland x = new TurnedIsland();
        for (int w : weights) {
            x.plot(0, w, 4, 0);
        }
        for (int p = 0; p < weights.length; p++) {
            CHECK.due("pivots of " + p, x.of(p, 5), pivots[p]);
            CHECK.due("swings of " + p, x.of(p, 6), swings[p]);
        }
    }

    private static void promise17Powers() {
        powers(new int[] {1, 1}, new int[] {1, 1}, new int[] {1, 1});
        powers(new int[] {1, 1, 1}, new int[] {2, 2, 2}, new int[] {2, 2, 2});
        powers(new int[] {2, 1, 1}, new int[] {4, 1, 1}, new int[] {3, 1, 1});
        powers(new int[] {3, 1, 1}, new int[] {6, 0, 0}, new int[] {4, 0, 0});
        powers(new int[] {4, 3, 2, 1}, new int[] {10, 6, 6, 2}, new int[] {5, 3, 3, 1});
        int[] ones = {1, 1, 1, 1, 1, 1, 1, 1, 1, 1};
        int[] pivots = new int[10];
        int[] swings = new int[10];
        for (int p = 0; p < 10; p++) {
            pivots[p] = 362880;
            // Five of the nine others, which are half and not more.
            swings[p] = 126;
        }
        powers(ones, pivots, swings);
    }

    /** Two owners on a ring of six, one of whom loves angle 2 and hates 4, the other a turn at all. */
    private static TurnedIsland pair() {
        TurnedIsland x = new TurnedIsland();
        x.notches(6);
        Check.tell(x, 0, "worth sun;");
        Check.tell(x, 1, "worth 0-turned*3;");
        x.sky(0, 0, 2, 9);
        x.sky(0, 0, 4, -9);
        x.plot(0, 2, 0, 0);
        x.plot(0, 1, 1, 0);
        return x;
    }

    private static void promise19Best() {
        TurnedIsland x = new TurnedIsland();
        CHECK.due("best without plots", x.best(30, 0), 0);
        CHECK.due("turns without plots", x.best(30, 39), 2);
        x = pair();
        x.set(2, 0);
        CHECK.due("best of one day", x.best(1, 0), 0);
        CHECK.due("stays", x.best(1, 10), 2);
        CHECK.due("best of two days", x.best(2, 0), 3);
        CHECK.due("turns", x.best(2, 10), 3);
        CHECK.due("turns", x.best(2, 11), 3);
        CHECK.due("best of thirty days", x.best(30, 0), 29 * 9 - 6);
        CHECK.due("turns first", x.best(30, 10), 3);
        CHECK.due("then stays", x.best(30, 12), 2);
        CHECK.due("to the end", x.best(30, 39), 2);
        int[][] wrong = {{0, 0}, {31, 0}, {-1, 0}, {3, 1}, {3, -1}, {3, 9}, {3, 13}, {30, 40},
            {3, Integer.MAX_VALUE}, {3, Integer.MIN_VALUE}};
        for (int[] w : wrong) {
            CHECK.due("best(" + w[0] + ", " + w[1] + ")", x.best(w[0], w[1]), -1000000);
        }
        ties();
    }

    private static void ties() {
        TurnedIsland x = new TurnedIsland();
        x.notches(4);
        Check.tell(x, 0, "worth 5 when turned=1;");
        x.plot(0, 1, 0, 0);
        CHECK.due("of several 1 ahead of -1", x.best(2, 10), 3);
        CHECK.due("day by day", x.best(2, 11), 3);
        Check.tell(x, 0, "worth 5 when angle=2;");
        // Two turns either way, or one and two: 0 comes first where that is as good.
        CHECK.due("best of three days", x.best(3, 0), 10);
        CHECK.due("no day is lost", x.best(3, 10), 3);
        Check.tell(x, 0, "worth 5 when angle=2 and day=2;");
        CHECK.due("0 first", x.best(3, 10), 2);
        CHECK.due("then 1", x.best(3, 11), 3);
        CHECK.due("and 1", x.best(3, 12), 3);
    }

    private static void promise20Fair() {
        TurnedIsland x = new TurnedIsland();
        CHECK.due("fair without plots", x.fair(6, 0), 0);
        CHECK.due("together without plots", x.fair(6, 1), 0);
        CHECK.due("turns without plots", x.fair(6, 15), 2);
        x = pair();
        // Whoever turns, the second has less than nothing: so none.
        CHECK.due("least of two days", x.fair(2, 0), 0);
        CHECK.due("together", x.fair(2, 1), 0);
        CHECK.due("stays", x.fair(2, 11), 2);
        Check.tell(x, 1, "worth 1;worth 0-turned;");
        // Six days: the second has six less the turns. Two turns bring him 4 and the first 45.
        CHECK.due("least of six days", x.fair(6, 0), 4);
        CHECK.due("together of six days", x.fair(6, 1), 49);
        CHECK.due("of several with as much for the least the one with more", x.fair(6, 10), 3);
        CHECK.due("then stays", x.fair(6, 15), 2);
        int[][] wrong = {{0, 0}, {7, 0}, {-1, 0}, {3, 2}, {3, -1}, {3, 9}, {3, 13}, {6, 16}};
        for (int[] w : wrong) {
            CHECK.due("fair(" + w[0] + ", " + w[1] + ")", x.fair(w[0], w[1]), -1000000);
        }
    }

    private static void promise21Alone() {
        TurnedIsland x = new TurnedIsland();
        CHECK.due("alone without plots", x.alone(1, 1), -1000000);
        x = pair();
        CHECK.due("the first has more than half", x.alone(1, 3), 18);
        CHECK.due("the second is left the least", x.alone(2, 3), -9);
        CHECK.due("both", x.alone(3, 3), 12);
        x.plot(0, 3, 0, 0);
        CHECK.due("half is not enough", x.alone(1, 3), -18);
        CHECK.due("nor is it the other half", x.alone(4, 3), -18);
        CHECK.due("six days", x.alone(5, 6), 90);
        for (int set : new int[] {0, 8, 9, -1, 1024, Integer.MIN_VALUE, Integer.MAX_VALUE}) {
            CHECK.due("alone(" + set + ", 1)", x.alone(set, 1), -1000000);
        }
        CHECK.due("alone(1, 0)", x.alone(1, 0), -1000000);
        CHECK.due("alone(1, 7)", x.alone(1, 7), -1000000);
    }

    private static void promise23Leave() {
        TurnedIsland x = new TurnedIsland();
        CHECK.due("leave without plots", x.leave(1), -1);
        x = pair();
        // By best turns of three days 18 and -6: the first alone could have 18, both 12.
        CHECK.due("none leaves", x.leave(3), -1);
        x.pay(0, -1);
        CHECK.due("the first leaves", x.leave(3), 1);
        x.pay(0, 5);
        x.pay(1, -3);
        CHECK.due("the second has -9 alone", x.leave(3), -1);
        x.pay(1, -4);
        CHECK.due("now he leaves", x.leave(3), 2);
        x.pay(0, -1);
        CHECK.due("the least of those as few", x.leave(3), 1);
        x = pair();
        x.plot(0, 2, 0, 0);
        // Weights 2, 1, 2: no one by himself has more than half.
        x.pay(0, -20);
        x.pay(2, 15);
        CHECK.due("fewest: a pair", x.leave(3), 3);
        x.pay(0, -37);
        CHECK.due("fewest: one alone", x.leave(3), 1);
        CHECK.due("leave(0)", x.leave(0), -1);
        CHECK.due("leave(7)", x.leave(7), -1);
        // In six days he has 8 and could be left -45 alone, but with the second 39.
        CHECK.due("leave(6)", x.leave(6), 3);
    }

    /** Nothing in the document ends these days at 9999. */
    private static void lastDays() {
        TurnedIsland x = new TurnedIsland();
        Check.tell(x, 0, "worth day-9990;");
        x.plot(0, 1, 0, 0);
        x.set(1, 9999);
        CHECK.due("best from the last day", x.best(3, 0), 9 + 10 + 11);
        CHECK.due("fair from the last day", x.fair(3, 0), 9 + 10 + 11);
        CHECK.due("alone from the last day", x.alone(1, 3), 9 + 10 + 11);
    }
}
