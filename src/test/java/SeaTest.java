/** Promises 26 to 29: plans, boats, logs and turns told back. */
public final class SeaTest {
    private static final Check CHECK = new Check();

    public static void main(String[] args) {
        promise26Plan();
        promise27Boat();
        promise28Log();
        promise29Back();
        backByAllRows();
        CHECK.close();
    }

    private static void promise26Plan() {
        TurnedIsland x = new TurnedIsland();
        x.plot(0, 1, 4, 0);
        CHECK.yes("plan(0, 1)", x.plan(0, 1));
        CHECK.yes("plan(59, -1)", x.plan(59, -1));
        for (int[] w : new int[][] {{-1, 0}, {60, 0}, {0, 2}, {0, -2}}) {
            CHECK.no("plan(" + w[0] + ", " + w[1] + ")", x.plan(w[0], w[1]));
        }
        CHECK.due("the first plan", x.boat(0, 0, 1), 0);
        CHECK.due("the last plan", x.boat(0, 0, 0), 59);
        x.noons(3);
        CHECK.due("plans are from now on, whichever day it is", x.boat(0, 0, 0), 59);
        CHECK.yes("plan(0, 0)", x.plan(0, 0));
        CHECK.due("a plan told anew", x.boat(0, 0, 0), 0);
    }

    private static void promise27Boat() {
        TurnedIsland x = new TurnedIsland();
        x.notches(4);
        x.plot(3, 1, 4, 0);
        x.set(0, 2);
        // The plot stands at 1; behind day 10 at 2, behind day 20 at 3, behind day 30 at 2 again.
        x.plan(10, 1);
        x.plan(20, 1);
        x.plan(30, -1);
        CHECK.due("there already", x.boat(0, 0, 1), 0);
        CHECK.due("on day 10", x.boat(0, 0, 2), 10);
        CHECK.due("leaves four days earlier", x.boat(0, 4, 2), 6);
        CHECK.due("leaves at once", x.boat(0, 12, 2), 0);
        CHECK.due("comes with the later turn", x.boat(0, 20, 2), 10);
        CHECK.due("the last day of 3", x.boat(0, 29, 3), 0);
        CHECK.due("too late for 3", x.boat(0, 30, 3), -1);
        CHECK.due("never", x.boat(0, 0, 0), -1);
        CHECK.due("all days", x.boat(0, 59, 2), 0);
        for (int[] w : new int[][] {{1, 0, 1}, {-1, 0, 1}, {0, -1, 1}, {0, 60, 1}, {0, 0, -1}, {0, 0, 4}}) {
            CHECK.due("boat out of range", x.boat(w[0], w[1], w[2]), -1);
        }
    }

    private static void promise28Log() {
        TurnedIsland x = new TurnedIsland();
        x.plot(0, 1, 4, 0);
        for (int[] w : new int[][] {{-1, 0, 0}, {10000, 0, 0}, {0, -1, 0}, {0, 1, 0}, {0, 0, -1}, {0, 0, 12}}) {
            CHECK.no("log out of range", x.log(w[0], w[1], w[2]));
        }
        CHECK.due("none came", x.look(8), 0);
        for (int i = 0; i < 40; i++) {
            CHECK.yes("log " + i, x.log(9999, 0, 11));
        }
        CHECK.no("a 41st", x.log(0, 0, 0));
        CHECK.due("forty", x.look(8), 40);
    }

    private static void promise29Back() {
        TurnedIsland x = new TurnedIsland();
        CHECK.due("one day, nothing seen", x.back(0, 0, 0), 36);
        CHECK.due("the last day", x.back(9999, 9999, 0), 36);
        CHECK.due("the first angle", x.back(0, 0, 1), 0);
        CHECK.due("the first turn", x.back(0, 0, 10), 2);
        int[][] wrong = {{-1, 0, 0}, {5, 4, 0}, {9999, 10000, 0}, {0, 40, 0}, {0, 3, 2}, {0, 3, 9}, {0, 3, 14},
            {0, 3, -1}, {0, 39, 50}, {Integer.MIN_VALUE, Integer.MAX_VALUE, 0}, {0, 3, Integer.MAX_VALUE}};
        for (int[] w : wrong) {
            CHECK.due("back out of range", x.back(w[0], w[1], w[2]), -1);
        }
        x.plot(3, 1, 4, 0);
        x.plot(5, 1, 4, 0);
        x.log(7, 0, 2);
        // The island was at 11 behind noon: the mornings 0 (by -1), 10 (by 1) and 11 lead there.
        CHECK.due("a plot was seen", x.back(7, 7, 0), 3);
        CHECK.due("the first angle", x.back(7, 7, 1), 0);
        CHECK.due("the turn back", x.back(7, 7, 10), 1);
        CHECK.due("days around", x.back(6, 8, 0), 27);
        CHECK.due("days without it", x.back(8, 9, 0), 108);
        x.log(9, 1, 6);
        CHECK.due("two turns between", x.back(7, 9, 0), 3);
        CHECK.due("forward", x.back(7, 9, 11), 3);
        CHECK.due("forward", x.back(7, 9, 12), 3);
        x.log(9, 0, 4);
        CHECK.due("another plot says the same", x.back(7, 9, 0), 3);
        x.log(8, 0, 2);
        CHECK.due("what can't have been", x.back(7, 9, 0), 0);
        CHECK.due("no angle", x.back(7, 9, 1), -1);
        CHECK.due("no turn", x.back(7, 9, 10), -1);
        CHECK.due("no turn", x.back(7, 9, 12), -1);
        CHECK.due("without these days it can", x.back(8, 8, 0), 3);
        manyRows();
    }

    private static void manyRows() {
        TurnedIsland x = new TurnedIsland();
        x.plot(0, 1, 4, 0);
        long rows = 12;
        for (int days = 1; days <= 40; days++) {
            rows = Math.min(rows * 3, 100000000000000000L);
            CHECK.due(days + " days", x.back(100, 99 + days, 0), rows);
        }
        x.log(139, 0, 5);
        rows = 1;
        for (int days = 1; days <= 40; days++) {
            rows = Math.min(rows * 3, 100000000000000000L);
            CHECK.due(days + " days back from 139", x.back(140 - days, 139, 0), rows);
        }
        CHECK.due("the first angle of forty days", x.back(100, 139, 1), 0);
        CHECK.due("0 as long as may be", x.back(100, 139, 44), 2);
        CHECK.due("then 1", x.back(100, 139, 45), 3);
        CHECK.due("to the end", x.back(100, 139, 49), 3);
    }

    /** Small rings and few days, with every row of turns gone through. */
    private static void backByAllRows() {
        int[] order = {0, 1, -1};
        for (int n = 4; n <= 7; n++) {
            TurnedIsland x = new TurnedIsland();
            x.notches(n);
            x.plot(1, 1, 4, 0);
            x.plot(3, 1, 4, 0);
            x.log(2, 0, 0);
            x.log(4, 1, n - 1);
            long rows = 0;
            int first = -1;
            int firstRow = 0;
            for (int start = 0; start < n; start++) {
                for (int row = 0; row < 243; row++) {
                    int angle = start;
                    boolean fits = true;
                    for (int day = 0, part = 81; day < 5; day++, part /= 3) {
                        angle = (angle + order[row / part % 3] + n) % n;
                        fits &= day != 2 || (angle + 1) % n == 0;
                        fits &= day != 4 || (angle + 3) % n == n - 1;
                    }
                    if (fits && first < 0) {
                        first = start;
                        firstRow = row;
                    }
                    rows += fits ? 1 : 0;
                }
            }
            CHECK.due("rows of " + n, x.back(0, 4, 0), rows);
            CHECK.due("first angle of " + n, x.back(0, 4, 1), first);
            for (int day = 0, part = 81; day < 5; day++, part /= 3) {
                CHECK.due("turn " + day + " of " + n, x.back(0, 4, 10 + day),
                        first < 0 ? -1 : order[firstRow / part % 3] + 2);
            }
        }
    }
}
