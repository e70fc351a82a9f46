import java.util.Random;

/** Runs of calls by chance (always the same ones), each answer compared with the model's. */
public final class RandomTest {
    private static final int RUNS = 240;
    private static final int CALLS = 512;
    private static final int[] EDGES = {-1, 0, 1, 9, 10, 11, 24, 60, 9998, 9999, 10000, 99999, 100000,
        Integer.MIN_VALUE, Integer.MAX_VALUE, -9, -10, -99999, -100000, 1023, 1024};

    private final Random chance;
    private final Check check;
    private final int run;
    private final TurnedIsland x = new TurnedIsland();
    private final Model m = new Model();
    private int calls;

    private RandomTest(int run, Check check) {
        this.run = run;
        this.check = check;
        chance = new Random(run);
    }

    public static void main(String[] args) {
        Check check = new Check();
        for (int run = 1; run <= RUNS; run++) {
            new RandomTest(run, check).go();
        }
        check.close();
    }

    private void go() {
        begin();
        while (calls < CALLS) {
            int kind = chance.nextInt(100);
            if (kind < 15) {
                tell();
            } else if (kind < 30) {
                trade();
            } else if (kind < 45) {
                pass();
            } else if (kind < 95) {
                ask();
            } else {
                goBack();
            }
        }
    }

    private void due(String call, long got, long want) {
        calls++;
        // What later calls answer is free.
        if (calls <= CALLS) {
            check.due("run " + run + ", call " + calls + ": " + call, got, want);
        }
    }

    private void due(String call, boolean got, boolean want) {
        due(call, got ? 1 : 0, want ? 1 : 0);
    }

    /** Mostly from a to b, now and then anything. */
    private int pick(int a, int b) {
        int how = chance.nextInt(60);
        if (how == 0) {
            return EDGES[chance.nextInt(EDGES.length)];
        }
        if (how == 1) {
            return chance.nextBoolean() ? a - 1 : b + 1;
        }
        return a + chance.nextInt(Math.max(1, b - a + 1));
    }

    private int plotNumber() {
        return pick(0, Math.max(0, m.look(5) - 1));
    }

    private int angle() {
        return pick(0, m.look(0) - 1);
    }

    /** A day near the present one. */
    private int near(int before, int behind) {
        return pick(m.look(2) - before, m.look(2) + behind);
    }

    private void begin() {
        if (chance.nextInt(4) > 0) {
            int n = 4 + chance.nextInt(21);
            due("notches(" + n + ")", x.notches(n), m.notches(n));
        }
        for (int k = 0; k < 4; k++) {
            text(k);
        }
        for (int i = chance.nextInt(100); i > 0; i--) {
            sky();
        }
        // Few plots make many turns, many plots make many sets.
        int plots = run % 3 == 0 ? chance.nextInt(11) : run % 3 == 1 ? 1 + chance.nextInt(3) : 3 + chance.nextInt(4);
        for (int i = plots; i > 0; i--) {
            plot();
        }
        for (int i = chance.nextInt(2) * 20; i > 0; i--) {
            plan();
        }
        if (chance.nextInt(3) == 0) {
            set();
        }
    }

    private void sky() {
        int what = pick(0, 2);
        int month = chance.nextInt(3) == 0 ? pick(0, 11) : m.look(2) / 30 % 12;
        int angle = angle();
        int v = pick(-9, 9);
        due("sky(" + what + ", " + month + ", " + angle + ", " + v + ")", x.sky(what, month, angle, v),
                m.sky(what, month, angle, v));
    }

    private void plot() {
        int place = angle();
        int weight = pick(1, 9);
        int want = pick(0, 4);
        int coin = pick(-50, 50);
        due("plot(" + place + ", " + weight + ", " + want + ", " + coin + ")", x.plot(place, weight, want, coin),
                m.plot(place, weight, want, coin));
    }

    private void set() {
        int what = pick(0, 3);
        int[] most = {23, 9999, 999, 99};
        int v = what == 2 && chance.nextBoolean() ? chance.nextInt(4)
                : what == 1 && chance.nextInt(3) > 0 ? near(20, 20)
                : pick(0, what >= 0 && what < 4 ? most[what] : 5);
        due("set(" + what + ", " + v + ")", x.set(what, v), m.set(what, v));
    }

    private void text(int k) {
        String text = new RandomText(chance).text();
        StringBuilder padded = new StringBuilder(text);
        do {
            padded.append(' ');
        } while (padded.length() % 20 != 0);
        boolean fits = true;
        for (int i = 0; i < padded.length() && fits; i += 20) {
            int[] w = new int[5];
            for (int j = 0; j < 5; j++) {
                w[j] = Check.word(padded, i + 4 * j);
            }
            long told = m.feed(w);
            fits = told >= 0;
            due("feed", x.feed(w[0], w[1], w[2], w[3], w[4]), told);
        }
        due("end(" + text.length() + ")", x.end(text.length()), m.end(text.length()));
        due("text(" + k + ") [" + text + "]", x.text(k), m.text(k));
        due("fault(0) [" + text + "]", x.fault(0), m.fault(0));
        due("fault(1) [" + text + "]", x.fault(1), m.fault(1));
    }

    private void tell() {
        switch (chance.nextInt(8)) {
            case 0:
                set();
                break;
            case 1:
                plot();
                break;
            case 2:
                text(pick(0, 3));
                break;
            case 3:
                int owner = plotNumber();
                int v = pick(-60, 60);
                due("pay(" + owner + ", " + v + ")", x.pay(owner, v), m.pay(owner, v));
                break;
            case 4:
                plan();
                break;
            case 5:
                int day = near(20, 20);
                int plot = plotNumber();
                int angle = angle();
                due("log(" + day + ", " + plot + ", " + angle + ")", x.log(day, plot, angle),
                        m.log(day, plot, angle));
                break;
            default:
                sky();
                break;
        }
    }

    private void plan() {
        int i = pick(0, 59);
        int turn = pick(-1, 1);
        due("plan(" + i + ", " + turn + ")", x.plan(i, turn), m.plan(i, turn));
    }

    /** Promises of one owner that lie close to one another. */
    private void promiseMuch() {
        int owner = plotNumber();
        for (int i = 2 + chance.nextInt(9); i > 0; i--) {
            int turn = chance.nextInt(3) - 1;
            int from = near(0, 12);
            int until = from + chance.nextInt(5);
            due("promise(" + owner + ", " + turn + ", " + from + ", " + until + ")",
                    x.promise(owner, turn, from, until), m.promise(owner, turn, from, until));
            due("quarrel()", x.quarrel(), m.quarrel());
            due("fewest(" + owner + ")", x.fewest(owner), m.fewest(owner));
        }
    }

    private void trade() {
        if (chance.nextInt(30) == 0) {
            promiseMuch();
            return;
        }
        int owner = plotNumber();
        int from = near(3, 10);
        int until = from + pick(0, 6);
        if (chance.nextInt(5) == 0) {
            int promise = pick(0, Math.max(0, m.look(7) - 1));
            due("drop(" + promise + ")", x.drop(promise), m.drop(promise));
        } else if (chance.nextBoolean()) {
            int to = plotNumber();
            int price = pick(0, 30);
            due("sell(" + owner + ", " + to + ", " + from + ", " + until + ", " + price + ")",
                    x.sell(owner, to, from, until, price), m.sell(owner, to, from, until, price));
        } else {
            int turn = pick(-1, 1);
            due("promise(" + owner + ", " + turn + ", " + from + ", " + until + ")",
                    x.promise(owner, turn, from, until), m.promise(owner, turn, from, until));
        }
    }

    private void pass() {
        int n = chance.nextInt(40) == 0 ? pick(1, 400) : pick(1, 4);
        due("noons(" + n + ")", x.noons(n), m.noons(n));
        due("look(1)", x.look(1), m.look(1));
        due("look(3)", x.look(3), m.look(3));
        int plot = plotNumber();
        due("of(" + plot + ", 3)", x.of(plot, 3), m.of(plot, 3));
    }

    private void goBack() {
        int how = chance.nextInt(20);
        if (how < 4) {
            boolean taken = chance.nextInt(3) > 0;
            due("image(" + taken + ")", x.image(taken), m.image(taken));
        } else if (how == 4) {
            int n = pick(4, 24);
            due("notches(" + n + ")", x.notches(n), m.notches(n));
            begin();
        } else {
            for (int i = chance.nextInt(6); i >= 0; i--) {
                due("undo()", x.undo(), m.undo());
                int day = near(405, 1);
                due("turned(" + day + ")", x.turned(day), m.turned(day));
            }
        }
        for (int what = 0; what < 10; what++) {
            due("look(" + what + ")", x.look(what), m.look(what));
        }
        for (int i = 0; i < 3; i++) {
            askOfPlot(0);
        }
    }

    private void ask() {
        int kind = chance.nextInt(8);
        if (kind < 4) {
            askOfPlot(kind);
        } else if (kind < 6) {
            askOfDays();
        } else {
            askOfRest();
        }
    }

    private void askOfPlot(int kind) {
        int plot = plotNumber();
        if (kind == 0) {
            int day = chance.nextBoolean() ? near(5, 40) : pick(0, 9999);
            int angle = angle();
            int turn = pick(-1, 1);
            due("worth(" + plot + ", " + day + ", " + angle + ", " + turn + ")", x.worth(plot, day, angle, turn),
                    m.worth(plot, day, angle, turn));
        } else if (kind == 1) {
            due("votes(" + plot + ")", x.votes(plot), m.votes(plot));
        } else if (kind == 2) {
            int day = near(10, 20);
            due("holder(" + plot + ", " + day + ")", x.holder(plot, day), m.holder(plot, day));
        } else {
            int what = pick(0, 6);
            due("of(" + plot + ", " + what + ")", x.of(plot, what), m.of(plot, what));
        }
    }

    private int what(int days) {
        return chance.nextBoolean() ? pick(0, 1) : pick(10, 9 + days);
    }

    private void askOfDays() {
        int days = chance.nextInt(6) > 0 ? pick(1, 3) : pick(1, 6);
        int what = what(days);
        switch (chance.nextInt(4)) {
            case 0:
                days = chance.nextInt(4) > 0 ? days : pick(1, 30);
                what = what(days);
                due("best(" + days + ", " + what + ")", x.best(days, what), m.best(days, what));
                break;
            case 1:
                due("fair(" + days + ", " + what + ")", x.fair(days, what), m.fair(days, what));
                break;
            case 2:
                int set = pick(1, (1 << m.look(5)) - 1);
                due("alone(" + set + ", " + days + ")", x.alone(set, days), m.alone(set, days));
                break;
            default:
                due("leave(" + days + ")", x.leave(days), m.leave(days));
                break;
        }
    }

    private void askOfRest() {
        switch (chance.nextInt(6)) {
            case 0:
                due("quarrel()", x.quarrel(), m.quarrel());
                break;
            case 1:
                int owner = plotNumber();
                due("fewest(" + owner + ")", x.fewest(owner), m.fewest(owner));
                break;
            case 2:
                int plot = plotNumber();
                int days = pick(0, 59);
                int angle = angle();
                due("boat(" + plot + ", " + days + ", " + angle + ")", x.boat(plot, days, angle),
                        m.boat(plot, days, angle));
                break;
            case 3:
                int a = near(20, 20);
                int b = a + (chance.nextBoolean() ? pick(0, 4) : pick(0, 39));
                int what = chance.nextBoolean() ? pick(0, 1) : pick(10, 10 + b - a);
                due("back(" + a + ", " + b + ", " + what + ")", x.back(a, b, what), m.back(a, b, what));
                break;
            case 4:
                int look = pick(0, 30);
                due("look(" + look + ")", x.look(look), m.look(look));
                break;
            default:
                int day = near(12, 2);
                due("turned(" + day + ")", x.turned(day), m.turned(day));
                break;
        }
    }
}
