/** Promises 12, 13, 24 and 25: promises and their quarrels. */
public final class PromiseTest {
    private static final Check CHECK = new Check();

    public static void main(String[] args) {
        promise12Promise();
        promise13Drop();
        promise24Quarrel();
        promise25Fewest();
        CHECK.close();
    }

    private static TurnedIsland island(int plots) {
        TurnedIsland x = new TurnedIsland();
        for (int p = 0; p < plots; p++) {
            x.plot(0, 1, 4, 0);
        }
        return x;
    }

    private static void promise12Promise() {
        TurnedIsland x = island(4);
        int[][] wrong = {{-1, 0, 0, 0}, {4, 0, 0, 0}, {0, -2, 0, 0}, {0, 2, 0, 0}, {0, 0, -1, 0}, {0, 0, 0, 10000},
            {0, 0, 5, 4}, {0, 0, Integer.MIN_VALUE, Integer.MAX_VALUE}};
        for (int[] w : wrong) {
            CHECK.due("promise out of range", x.promise(w[0], w[1], w[2], w[3]), -1);
        }
        CHECK.due("none came", x.look(7), 0);
        x.set(1, 100);
        for (int i = 0; i < 10; i++) {
            CHECK.due("days gone may be promised", x.promise(0, i % 3 - 1, 0, 9999), i);
        }
        CHECK.due("an eleventh of one owner", x.promise(0, 0, 0, 0), -1);
        x.drop(3);
        CHECK.due("dropped ones were told", x.promise(0, 0, 0, 0), -1);
        for (int i = 10; i < 20; i++) {
            CHECK.due("promise", x.promise(1, 0, 5, 5), i);
        }
        for (int i = 20; i < 24; i++) {
            CHECK.due("promise", x.promise(2, 0, 5, 5), i);
        }
        CHECK.due("a 25th", x.promise(3, 0, 5, 5), -1);
        CHECK.due("24 told", x.look(7), 24);
        CHECK.due("the first holds", x.votes(0), 1);
    }

    private static void promise13Drop() {
        TurnedIsland x = island(1);
        CHECK.no("drop without any", x.drop(0));
        x.promise(0, 1, 0, 9);
        CHECK.due("promised", x.votes(0), 3);
        CHECK.no("drop(-1)", x.drop(-1));
        CHECK.no("drop(1)", x.drop(1));
        CHECK.yes("drop(0)", x.drop(0));
        CHECK.no("drop(0) once more", x.drop(0));
        CHECK.due("dropped", x.votes(0), 2);
        CHECK.due("but told", x.look(7), 1);
        CHECK.due("the next number", x.promise(0, -1, 0, 9), 1);
        CHECK.due("holds", x.votes(0), 1);
        x.notches(12);
        x.plot(0, 1, 4, 0);
        x.promise(0, 1, 0, 9);
        CHECK.due("a promise told anew is not dropped", x.votes(0), 3);
    }

    private static void promise24Quarrel() {
        TurnedIsland x = island(3);
        CHECK.due("none", x.quarrel(), -1);
        x.promise(0, 1, 0, 5);
        x.promise(1, -1, 0, 5);
        CHECK.due("unlike owners", x.quarrel(), -1);
        x.promise(0, 1, 3, 8);
        CHECK.due("like turns", x.quarrel(), -1);
        x.promise(0, 0, 9, 9);
        CHECK.due("no day in common", x.quarrel(), -1);
        x.promise(1, 0, 5, 9);
        CHECK.due("a day in common", x.quarrel(), 4);
        x.promise(0, -1, 8, 8);
        CHECK.due("the first stays", x.quarrel(), 4);
        x.drop(1);
        CHECK.due("without a dropped one the next", x.quarrel(), 5);
        x.drop(5);
        CHECK.due("none again", x.quarrel(), -1);
    }

    private static void promise25Fewest() {
        TurnedIsland x = island(2);
        CHECK.due("fewest of none such", x.fewest(2), -1);
        CHECK.due("fewest(-1)", x.fewest(-1), -1);
        CHECK.due("fewest without promises", x.fewest(0), 0);
        x.promise(1, 0, 0, 9);
        x.promise(0, 1, 0, 9);
        x.promise(0, -1, 2, 2);
        CHECK.due("of two the least as a number", x.fewest(0), 2);
        x.promise(0, 1, 2, 4);
        CHECK.due("one against two", x.fewest(0), 4);
        x.promise(0, 0, 5, 6);
        CHECK.due("two that must go", x.fewest(0), 6);
        CHECK.due("the other owner has no quarrel", x.fewest(1), 0);
        x.drop(1);
        CHECK.due("without a dropped one", x.fewest(0), 4);
        x.drop(2);
        CHECK.due("nothing is left to break", x.fewest(0), 0);
        many();
    }

    private static void many() {
        TurnedIsland x = island(2);
        for (int i = 0; i < 10; i++) {
            x.promise(1, 0, 100, 100);
        }
        for (int i = 0; i < 10; i++) {
            x.promise(0, i % 3 - 1, 0, 9999);
        }
        // Four say -1 and stay: the other six go, 11, 12, 14, 15, 17 and 18.
        CHECK.due("fewest of ten", x.fewest(0), 1 << 11 | 1 << 12 | 1 << 14 | 1 << 15 | 1 << 17 | 1 << 18);
    }
}
