import java.util.Arrays;

/** An island that floats on a pin and is turned at noon as its plots vote. */
public final class TurnedIsland {
    public static final int NONE = -1;

    private static final int NO_NUMBER = NONE - 99999;
    private static final int NO_WORTH = NONE - 999999;

    private static final int LEAST_NOTCHES = 4;
    private static final int MOST_NOTCHES = 24;
    private static final int FIRST_NOTCHES = 12;
    private static final int LAST_DAY = 9999;
    private static final int MONTHS = 12;
    private static final int MONTH_DAYS = 30;
    private static final int SKIES = 3;
    private static final int MOST_SKY = 9;
    private static final int MOST_PLOTS = 10;
    private static final int MOST_WEIGHT = 9;
    private static final int MOST_TOLD_COIN = 99999;
    private static final int WANTS = 4;
    private static final int MOST_GREASE = 999;
    private static final int FIRST_GREASE = 99;
    private static final int MOST_PULL = 99;
    private static final int MOST_PRICE = 9999;
    private static final int MOST_NOONS = 400;
    private static final int BOOK_DAYS = 400;
    private static final int PLAN_DAYS = 60;
    private static final int BACK_DAYS = 40;
    private static final int BEST_DAYS = 30;
    private static final int FAIR_DAYS = 6;
    /** Where the turns begin among the whats of best, fair and back. */
    private static final int FIRST_TURN = 10;
    /** Turns are answered with this added, so that none looks like NONE. */
    private static final int TURN_SHIFT = 2;
    /** Wherever several turns are as good, the one that stands first here is taken. */
    private static final int[] ORDER = {0, 1, -1};

    private final Island isle;
    private final Tape tape;
    private final Worths worths;
    private final Outlook outlook;
    private final Tracing tracing;
    private final History history;
    /** Made when an image is first taken, as most objects never take one. */
    private Island kept;

    public TurnedIsland() {
        isle = new Island();
        isle.begin(FIRST_NOTCHES);
        tape = new Tape();
        worths = new Worths();
        outlook = new Outlook(worths);
        tracing = new Tracing();
        history = new History();
        kept = null;
    }

    public boolean notches(int n) {
        if (!within(n, LEAST_NOTCHES, MOST_NOTCHES)) {
            return false;
        }
        isle.begin(n);
        worths.forget();
        history.forget();
        return true;
    }

    public boolean sky(int what, int month, int angle, int v) {
        if (!within(what, 0, SKIES - 1) || !within(month, 0, MONTHS - 1)
                || !isle.hasAngle(angle) || !within(v, -MOST_SKY, MOST_SKY)) {
            return false;
        }
        isle.sky[Island.skyCell(what, month, angle)] = v;
        worths.forget();
        history.forget();
        return true;
    }

    public int plot(int place, int weight, int want, int coin) {
        if (!isle.hasAngle(place) || !within(weight, 1, MOST_WEIGHT) || !within(want, 0, WANTS)
                || !within(coin, -MOST_TOLD_COIN, MOST_TOLD_COIN) || isle.plots.count >= MOST_PLOTS) {
            return NONE;
        }
        history.forget();
        return isle.plots.join(place, weight, want, coin);
    }

    public boolean set(int what, int v) {
        if (!mayBeSet(what, v)) {
            return false;
        }
        switch (what) {
            case 0:
                isle.angle = v;
                break;
            case 1:
                isle.day = v;
                isle.booked = 0;
                break;
            case 2:
                isle.grease = v;
                break;
            default:
                isle.pull = v;
                break;
        }
        history.forget();
        return true;
    }

    private boolean mayBeSet(int what, int v) {
        switch (what) {
            case 0:
                return isle.hasAngle(v);
            case 1:
                return isDay(v);
            case 2:
                return within(v, 0, MOST_GREASE);
            case 3:
                return within(v, 0, MOST_PULL);
            default:
                return false;
        }
    }

    public int feed(int a, int b, int c, int d, int e) {
        if (!tape.hasRoom()) {
            return NONE;
        }
        tape.add(a);
        tape.add(b);
        tape.add(c);
        tape.add(d);
        tape.add(e);
        return tape.length;
    }

    public boolean end(int n) {
        if (!within(n, 0, tape.length)) {
            return false;
        }
        tape.length = n;
        return true;
    }

    public int text(int k) {
        if (!within(k, 0, WANTS - 1)) {
            tape.leaveUnread();
            return NONE;
        }
        int lines = tape.readInto(isle.wants[k]);
        if (lines != NONE) {
            worths.forget();
        }
        return lines;
    }

    public int fault(int what) {
        if (what == 0) {
            return tape.fault;
        }
        return what == 1 ? tape.faultPlace : NONE;
    }

    public int worth(int owner, int day, int angle, int turn) {
        if (!isle.plots.has(owner) || !isDay(day) || !isle.hasAngle(angle) || !isTurn(turn)) {
            return NO_NUMBER;
        }
        return worths.worthTo(isle, owner, day, angle, turn);
    }

    public boolean sell(int plot, int to, int from, int until, int price) {
        if (!isle.plots.has(plot) || !isle.plots.has(to) || plot == to
                || from < isle.day || !isSpan(from, until) || !within(price, 0, MOST_PRICE)
                || !isle.sales.mayTake(plot, from, until)) {
            return false;
        }
        isle.sales.take(plot, to, from, until);
        isle.plots.coin[to] -= price;
        isle.plots.coin[plot] += price;
        history.forget();
        return true;
    }

    public int promise(int owner, int turn, int from, int until) {
        if (!isle.plots.has(owner) || !isTurn(turn) || !isSpan(from, until)
                || !isle.promises.mayTake(owner)) {
            return NONE;
        }
        history.forget();
        return isle.promises.take(owner, turn, from, until);
    }

    public boolean drop(int promise) {
        if (!isle.promises.stands(promise)) {
            return false;
        }
        isle.promises.release(promise);
        history.forget();
        return true;
    }

    public int votes(int plot) {
        if (!isle.plots.has(plot)) {
            return NONE;
        }
        return voteOf(isle.holderOn(plot, isle.day)) + TURN_SHIFT;
    }

    public int holder(int plot, int day) {
        if (!isle.plots.has(plot) || !isDay(day)) {
            return NONE;
        }
        return isle.holderOn(plot, day);
    }

    public int noons(int n) {
        if (!within(n, 1, MOST_NOONS) || isle.day + n > LAST_DAY) {
            return NONE;
        }
        int made = 0;
        for (int i = 0; i < n; i++) {
            history.keep(isle);
            if (passNoon() != 0) {
                made++;
            }
        }
        return made;
    }

    private int passNoon() {
        int[] votes = isle.plots.vote;
        for (int p = 0; p < isle.plots.count; p++) {
            votes[p] = voteOf(isle.holderOn(p, isle.day));
        }
        int turn = isle.grease > 0 ? isle.plots.carriedTurn() : 0;
        if (turn != 0) {
            isle.makeTurn(turn);
        }
        for (int p = 0; p < isle.plots.count; p++) {
            isle.plots.coin[p] += worths.worthTo(isle, p, isle.day, isle.angle, turn);
        }
        isle.endDay(turn);
        return turn;
    }

    private int voteOf(int owner) {
        int promised = isle.promises.firstOn(owner, isle.day);
        if (promised != NONE) {
            return isle.promises.turn[promised];
        }
        int vote = 0;
        int most = worths.worthTo(isle, owner, isle.day, isle.angle, 0);
        for (int k = 1; k < ORDER.length; k++) {
            int turn = ORDER[k];
            int angle = wrap(isle.angle + turn, isle.notches);
            int worth = worths.worthTo(isle, owner, isle.day, angle, turn);
            if (worth > most) {
                most = worth;
                vote = turn;
            }
        }
        return vote;
    }

    public int of(int plot, int what) {
        if (!isle.plots.has(plot)) {
            return NO_NUMBER;
        }
        switch (what) {
            case 0:
                return isle.plots.place[plot];
            case 1:
                return isle.plots.weight[plot];
            case 2:
                return isle.plots.want[plot];
            case 3:
                return isle.plots.coin[plot];
            case 4:
                return isle.angleOf(plot, isle.angle);
            case 5:
                return isle.plots.power(plot, true);
            case 6:
                return isle.plots.power(plot, false);
            default:
                return NO_NUMBER;
        }
    }

    public int turned(int day) {
        if (day >= isle.day || day < isle.day - isle.booked) {
            return NONE;
        }
        return isle.book[Island.bookCell(day)] + TURN_SHIFT;
    }

    public int best(int m, int what) {
        if (!within(m, 1, BEST_DAYS) || what != 0 && !isTurnOf(what, m)) {
            return NO_WORTH;
        }
        int together = outlook.findBest(isle, m);
        return what == 0 ? together : outlook.turns[what - FIRST_TURN] + TURN_SHIFT;
    }

    public int fair(int m, int what) {
        if (!within(m, 1, FAIR_DAYS) || what != 0 && what != 1 && !isTurnOf(what, m)) {
            return NO_WORTH;
        }
        outlook.findFair(isle, m);
        if (what == 0) {
            return outlook.least;
        }
        return what == 1 ? outlook.together : outlook.turns[what - FIRST_TURN] + TURN_SHIFT;
    }

    public int alone(int set, int m) {
        if (!within(set, 1, isle.plots.all()) || !within(m, 1, FAIR_DAYS)) {
            return NO_WORTH;
        }
        return outlook.findAlone(isle, set, m);
    }

    public boolean pay(int owner, int v) {
        if (!isle.plots.has(owner) || !within(v, -MOST_TOLD_COIN, MOST_TOLD_COIN)) {
            return false;
        }
        isle.plots.payment[owner] = v;
        return true;
    }

    public int leave(int m) {
        return within(m, 1, FAIR_DAYS) ? outlook.findLeavers(isle, m) : NONE;
    }

    public int quarrel() {
        return isle.promises.firstQuarrel();
    }

    public int fewest(int owner) {
        return isle.plots.has(owner) ? isle.promises.fewestOf(owner) : NONE;
    }

    public boolean plan(int i, int turn) {
        if (!within(i, 0, PLAN_DAYS - 1) || !isTurn(turn)) {
            return false;
        }
        isle.plans[i] = turn;
        return true;
    }

    public int boat(int plot, int days, int angle) {
        if (!isle.plots.has(plot) || !within(days, 0, PLAN_DAYS - 1) || !isle.hasAngle(angle)) {
            return NONE;
        }
        int island = isle.angle;
        for (int i = 0; i < PLAN_DAYS; i++) {
            island = wrap(island + isle.plans[i], isle.notches);
            if (i >= days && isle.angleOf(plot, island) == angle) {
                return i - days;
            }
        }
        return NONE;
    }

    public boolean log(int day, int plot, int angle) {
        if (!isDay(day) || !isle.plots.has(plot) || !isle.hasAngle(angle) || isle.logs.count >= Logs.MOST) {
            return false;
        }
        isle.logs.take(day, plot, angle);
        return true;
    }

    public long back(int a, int b, int what) {
        if (!isSpan(a, b) || b - a >= BACK_DAYS) {
            return NONE;
        }
        if (what != 0 && what != 1 && !isTurnOf(what, b - a + 1)) {
            return NONE;
        }
        long rows = tracing.countRows(isle, a, b);
        if (what == 0) {
            return rows;
        }
        if (rows == 0) {
            return NONE;
        }
        tracing.findFirst(isle.notches);
        return what == 1 ? tracing.start : tracing.turns[what - FIRST_TURN] + TURN_SHIFT;
    }

    public boolean undo() {
        if (history.count == 0) {
            return false;
        }
        history.giveBack(isle);
        return true;
    }

    public boolean image(boolean taken) {
        if (taken) {
            takeImage();
            return true;
        }
        if (kept == null) {
            return false;
        }
        isle.copyFrom(kept);
        worths.forget();
        history.forget();
        return true;
    }

    private void takeImage() {
        if (kept == null) {
            kept = new Island();
        }
        kept.copyFrom(isle);
    }

    public int look(int what) {
        if (within(what, 10, 10 + WANTS - 1)) {
            return isle.wants[what - 10].lines;
        }
        if (within(what, 20, 20 + isle.plots.count - 1)) {
            return isle.plots.payment[what - 20];
        }
        switch (what) {
            case 0:
                return isle.notches;
            case 1:
                return isle.angle;
            case 2:
                return isle.day;
            case 3:
                return isle.grease;
            case 4:
                return isle.pull;
            case 5:
                return isle.plots.count;
            case 6:
                return isle.sales.count;
            case 7:
                return isle.promises.count;
            case 8:
                return isle.logs.count;
            case 9:
                return history.count;
            default:
                return NO_NUMBER;
        }
    }

    private static boolean within(int v, int least, int most) {
        return v >= least && v <= most;
    }

    private static boolean isDay(int day) {
        return within(day, 0, LAST_DAY);
    }

    private static boolean isSpan(int from, int until) {
        return isDay(from) && isDay(until) && from <= until;
    }

    private static boolean isTurn(int turn) {
        return within(turn, -1, 1);
    }

    private static boolean isTurnOf(int what, int days) {
        return within(what, FIRST_TURN, FIRST_TURN + days - 1);
    }

    private static int wrap(int angle, int notches) {
        return notches > 0 ? Math.floorMod(angle, notches) : 0;
    }

    /** All that an image holds. */
    private static final class Island {
        /** Ten noons may be undone, so turns of ten days more than the book tells are held. */
        private static final int BOOK_CELLS = BOOK_DAYS + History.MOST;

        int notches;
        int angle;
        int day;
        int grease;
        int pull;
        /** How many days just behind the present one the book tells. */
        int booked;
        final int[] sky = new int[SKIES * MONTHS * MOST_NOTCHES];
        final int[] book = new int[BOOK_CELLS];
        final int[] plans = new int[PLAN_DAYS];
        final Plots plots = new Plots();
        final Sales sales = new Sales();
        final Promises promises = new Promises();
        final Logs logs = new Logs();
        final Want[] wants = {new Want(), new Want(), new Want(), new Want()};

        static int skyCell(int what, int month, int angle) {
            return (what * MONTHS + month) * MOST_NOTCHES + angle;
        }

        static int bookCell(int day) {
            return Math.floorMod(day, BOOK_CELLS);
        }

        void begin(int notches) {
            this.notches = notches;
            angle = 0;
            day = 0;
            grease = FIRST_GREASE;
            pull = 0;
            booked = 0;
            Arrays.fill(sky, 0);
            Arrays.fill(plans, 0);
            plots.count = 0;
            sales.count = 0;
            promises.count = 0;
            logs.count = 0;
            for (int k = 0; k < WANTS; k++) {
                wants[k].clear();
            }
        }

        void copyFrom(Island other) {
            notches = other.notches;
            angle = other.angle;
            day = other.day;
            grease = other.grease;
            pull = other.pull;
            booked = other.booked;
            System.arraycopy(other.sky, 0, sky, 0, sky.length);
            System.arraycopy(other.book, 0, book, 0, book.length);
            System.arraycopy(other.plans, 0, plans, 0, plans.length);
            plots.copyFrom(other.plots);
            sales.copyFrom(other.sales);
            promises.copyFrom(other.promises);
            logs.copyFrom(other.logs);
            for (int k = 0; k < WANTS; k++) {
                wants[k].copyFrom(other.wants[k]);
            }
        }

        boolean hasAngle(int v) {
            return within(v, 0, notches - 1);
        }

        /** The angle at which a plot stands while the island is at the given one. */
        int angleOf(int plot, int island) {
            return wrap(plots.place[plot] + island, notches);
        }

        int holderOn(int plot, int day) {
            int buyer = sales.buyerOn(plot, day);
            return buyer == NONE ? plot : buyer;
        }

        void makeTurn(int turn) {
            angle = wrap(angle + turn, notches);
            grease--;
            int pullers = 0;
            for (int p = 0; p < plots.count; p++) {
                if (plots.vote[p] == turn) {
                    pullers |= 1 << holderOn(p, day);
                }
            }
            for (int p = 0; p < plots.count; p++) {
                if ((pullers >> p & 1) != 0) {
                    plots.coin[p] -= pull;
                }
            }
        }

        void endDay(int turn) {
            book[bookCell(day)] = turn;
            booked = Math.min(booked + 1, BOOK_DAYS);
            day++;
        }
    }

    /** The plots, each with what its owner has. */
    private static final class Plots {
        private static final int[] FACTORIALS = {1, 1, 2, 6, 24, 120, 720, 5040, 40320, 362880};

        int count;
        final int[] place = new int[MOST_PLOTS];
        final int[] weight = new int[MOST_PLOTS];
        final int[] want = new int[MOST_PLOTS];
        final int[] coin = new int[MOST_PLOTS];
        final int[] payment = new int[MOST_PLOTS];
        /** The votes of one noon, made anew at each, so an image needs none of them. */
        final int[] vote = new int[MOST_PLOTS];

        void copyFrom(Plots other) {
            count = other.count;
            System.arraycopy(other.place, 0, place, 0, MOST_PLOTS);
            System.arraycopy(other.weight, 0, weight, 0, MOST_PLOTS);
            System.arraycopy(other.want, 0, want, 0, MOST_PLOTS);
            System.arraycopy(other.coin, 0, coin, 0, MOST_PLOTS);
            System.arraycopy(other.payment, 0, payment, 0, MOST_PLOTS);
        }

        boolean has(int plot) {
            return within(plot, 0, count - 1);
        }

        int all() {
            return (1 << count) - 1;
        }

        int join(int place, int weight, int want, int coin) {
            int plot = count;
            this.place[plot] = place;
            this.weight[plot] = weight;
            this.want[plot] = want;
            this.coin[plot] = coin;
            payment[plot] = 0;
            count++;
            return plot;
        }

        int weightOf(int set) {
            int sum = 0;
            for (int p = 0; p < count; p++) {
                if ((set >> p & 1) != 0) {
                    sum += weight[p];
                }
            }
            return sum;
        }

        boolean isEnough(int weights) {
            return 2 * weights > weightOf(all());
        }

        int carriedTurn() {
            int forward = 0;
            int backward = 0;
            for (int p = 0; p < count; p++) {
                if (vote[p] == 1) {
                    forward += weight[p];
                } else if (vote[p] == -1) {
                    backward += weight[p];
                }
            }
            if (isEnough(forward)) {
                return 1;
            }
            return isEnough(backward) ? -1 : 0;
        }

        /** Sets of others that are enough with the plot alone: how many, or in how many orders they come. */
        int power(int plot, boolean byOrders) {
            int all = all();
            int half = weightOf(all) / 2;
            int sum = 0;
            for (int set = 0; set <= all; set++) {
                int others = weightOf(set);
                if ((set >> plot & 1) == 0 && others <= half && others + weight[plot] > half) {
                    sum += byOrders ? orders(Integer.bitCount(set)) : 1;
                }
            }
            return sum;
        }

        private int orders(int ahead) {
            int behind = count - 1 - ahead;
            if (!within(ahead, 0, FACTORIALS.length - 1) || !within(behind, 0, FACTORIALS.length - 1)) {
                return 0;
            }
            return FACTORIALS[ahead] * FACTORIALS[behind];
        }
    }

    /** Votes that are sold for days. */
    private static final class Sales {
        private static final int MOST = 60;

        int count;
        private final int[] plot = new int[MOST];
        private final int[] buyer = new int[MOST];
        private final int[] from = new int[MOST];
        private final int[] until = new int[MOST];

        void copyFrom(Sales other) {
            count = other.count;
            System.arraycopy(other.plot, 0, plot, 0, count);
            System.arraycopy(other.buyer, 0, buyer, 0, count);
            System.arraycopy(other.from, 0, from, 0, count);
            System.arraycopy(other.until, 0, until, 0, count);
        }

        boolean mayTake(int plot, int from, int until) {
            if (count >= MOST) {
                return false;
            }
            for (int s = 0; s < count; s++) {
                if (this.plot[s] == plot && this.from[s] <= until && from <= this.until[s]) {
                    return false;
                }
            }
            return true;
        }

        void take(int plot, int buyer, int from, int until) {
            this.plot[count] = plot;
            this.buyer[count] = buyer;
            this.from[count] = from;
            this.until[count] = until;
            count++;
        }

        int buyerOn(int plot, int day) {
            for (int s = 0; s < count; s++) {
                if (this.plot[s] == plot && from[s] <= day && day <= until[s]) {
                    return buyer[s];
                }
            }
            return NONE;
        }
    }

    /** Turns that owners promised for days. */
    private static final class Promises {
        private static final int MOST = 24;
        private static final int MOST_OF_ONE = 10;

        int count;
        final int[] turn = new int[MOST];
        /** As a set. */
        private int dropped;
        private final int[] owner = new int[MOST];
        private final int[] from = new int[MOST];
        private final int[] until = new int[MOST];
        /** The numbers of one owner's promises, for fewestOf alone. */
        private final int[] own = new int[MOST];

        void copyFrom(Promises other) {
            count = other.count;
            dropped = other.dropped;
            System.arraycopy(other.turn, 0, turn, 0, count);
            System.arraycopy(other.owner, 0, owner, 0, count);
            System.arraycopy(other.from, 0, from, 0, count);
            System.arraycopy(other.until, 0, until, 0, count);
        }

        /** Dropped ones count here too: they were told and keep their numbers. */
        boolean mayTake(int owner) {
            int told = 0;
            for (int p = 0; p < count; p++) {
                if (this.owner[p] == owner) {
                    told++;
                }
            }
            return count < MOST && told < MOST_OF_ONE;
        }

        int take(int owner, int turn, int from, int until) {
            int promise = count;
            this.owner[promise] = owner;
            this.turn[promise] = turn;
            this.from[promise] = from;
            this.until[promise] = until;
            dropped &= ~(1 << promise);
            count++;
            return promise;
        }

        boolean stands(int promise) {
            return within(promise, 0, count - 1) && (dropped >> promise & 1) == 0;
        }

        void release(int promise) {
            dropped |= 1 << promise;
        }

        int firstOn(int owner, int day) {
            for (int p = 0; p < count; p++) {
                if (this.owner[p] == owner && stands(p) && from[p] <= day && day <= until[p]) {
                    return p;
                }
            }
            return NONE;
        }

        private boolean disagree(int p, int q) {
            return stands(p) && stands(q) && owner[p] == owner[q] && turn[p] != turn[q]
                    && from[p] <= until[q] && from[q] <= until[p];
        }

        int firstQuarrel() {
            for (int later = 1; later < count; later++) {
                for (int p = 0; p < later; p++) {
                    if (disagree(p, later)) {
                        return later;
                    }
                }
            }
            return NONE;
        }

        int fewestOf(int owner) {
            int mine = 0;
            for (int p = 0; p < count; p++) {
                if (this.owner[p] == owner && stands(p) && mine < MOST_OF_ONE) {
                    own[mine] = p;
                    mine++;
                }
            }
            int fewest = (1 << mine) - 1;
            // Sets are tried as rising numbers, so of several that are as small the least one stays.
            for (int broken = 0; broken < 1 << mine; broken++) {
                if (Integer.bitCount(broken) < Integer.bitCount(fewest) && agreeWithout(broken, mine)) {
                    fewest = broken;
                }
            }
            int set = 0;
            for (int k = 0; k < mine; k++) {
                set |= (fewest >> k & 1) << own[k];
            }
            return set;
        }

        private boolean agreeWithout(int broken, int mine) {
            for (int k = 1; k < mine; k++) {
                for (int j = 0; j < k; j++) {
                    if ((broken >> k & 1) == 0 && (broken >> j & 1) == 0 && disagree(own[j], own[k])) {
                        return false;
                    }
                }
            }
            return true;
        }
    }

    /** Plots that were seen at an angle behind a day's noon. */
    private static final class Logs {
        private static final int MOST = 40;

        int count;
        final int[] day = new int[MOST];
        final int[] plot = new int[MOST];
        final int[] angle = new int[MOST];

        void copyFrom(Logs other) {
            count = other.count;
            System.arraycopy(other.day, 0, day, 0, count);
            System.arraycopy(other.plot, 0, plot, 0, count);
            System.arraycopy(other.angle, 0, angle, 0, count);
        }

        void take(int day, int plot, int angle) {
            this.day[count] = day;
            this.plot[count] = plot;
            this.angle[count] = angle;
            count++;
        }
    }

    /** The noons that can be undone, as the island was ahead of each. */
    private static final class History {
        private static final int MOST = 10;

        int count;
        private int next;
        private final int[] angle = new int[MOST];
        private final int[] grease = new int[MOST];
        private final int[] booked = new int[MOST];
        private final int[][] coin = new int[MOST][MOST_PLOTS];

        void forget() {
            count = 0;
        }

        void keep(Island isle) {
            angle[next] = isle.angle;
            grease[next] = isle.grease;
            booked[next] = isle.booked;
            System.arraycopy(isle.plots.coin, 0, coin[next], 0, MOST_PLOTS);
            next = (next + 1) % MOST;
            count = Math.min(count + 1, MOST);
        }

        void giveBack(Island isle) {
            next = (next + MOST - 1) % MOST;
            count--;
            isle.day--;
            isle.angle = angle[next];
            isle.grease = grease[next];
            isle.booked = booked[next];
            System.arraycopy(coin[next], 0, isle.plots.coin, 0, MOST_PLOTS);
        }
    }

    /**
     * A want: its lines as code in which what is joined stands ahead of what joins it. Numbers stand as they are
     * and all else as the complement of its token's kind, so that the sign tells them apart.
     */
    private static final class Want {
        private static final int HELD = 9999;

        int lines;
        private int length;
        /** Most wants don't ask for the day, and are then the same through a month. */
        boolean asksDay;
        private final int[] code = new int[Tape.MOST];

        void clear() {
            lines = 0;
            length = 0;
            asksDay = false;
        }

        void copyFrom(Want other) {
            lines = other.lines;
            length = other.length;
            asksDay = other.asksDay;
            System.arraycopy(other.code, 0, code, 0, length);
        }

        void add(int number) {
            if (length < code.length) {
                code[length] = number;
                length++;
            }
        }

        int valueOf(int[] facts, int[] stack) {
            long sum = 0;
            int top = 0;
            for (int i = 0; i < length; i++) {
                int kind = ~code[i];
                if (kind < Tape.FACTS) {
                    if (top >= stack.length) {
                        break;
                    }
                    stack[top] = kind < 0 ? code[i] : facts[kind];
                    top++;
                } else if (kind == Tape.NOT && top >= 1) {
                    stack[top - 1] = 1 - stack[top - 1];
                } else if (kind == Tape.SEMICOLON && top >= 1) {
                    top--;
                    sum += stack[top];
                } else if (kind == Tape.WHEN && top >= 2) {
                    top -= 2;
                    sum += stack[top + 1] != 0 ? stack[top] : 0;
                } else if (top >= 2) {
                    top--;
                    stack[top - 1] = joined(kind, stack[top - 1], stack[top]);
                }
            }
            return (int) Math.max(-HELD, Math.min(HELD, sum));
        }

        private static int joined(int kind, int left, int right) {
            switch (kind) {
                case Tape.PLUS:
                    return left + right;
                case Tape.MINUS:
                    return left - right;
                case Tape.TIMES:
                    return left * right;
                case Tape.PART:
                    return right != 0 ? left / right : 0;
                case Tape.LESS:
                    return left < right ? 1 : 0;
                case Tape.EQUAL:
                    return left == right ? 1 : 0;
                case Tape.MORE:
                    return left > right ? 1 : 0;
                case Tape.AND:
                    return left & right;
                default:
                    return left | right;
            }
        }
    }

    /** The tape, and how it is read as a want. */
    private static final class Tape {
        private static final int MOST = 400;
        private static final int FED = 20;
        private static final int MOST_LINES = 16;
        private static final int MOST_OPEN = 8;
        private static final int MOST_DIGITS = 4;
        private static final int OUT_OF_PLACE = 1;
        private static final int PART_BY_ZERO = 2;
        private static final int TOO_MANY = 3;
        /** Each keyword ends with a blank and stands at the place that is its token's kind. */
        private static final String KEYWORDS =
                "angle sun wind current month day turned worth when or and not ";
        private static final int ANGLE = 0;
        private static final int SUN = 1;
        private static final int MONTH = 4;
        private static final int DAY = 5;
        private static final int TURNED = 6;
        /** The kinds below this one are what a want may ask for. */
        private static final int FACTS = 7;
        private static final int WORTH = 7;
        private static final int WHEN = 8;
        private static final int OR = 9;
        private static final int AND = 10;
        private static final int NOT = 11;
        private static final int NUMBER = 12;
        /** The kinds of these go on from SEMICOLON. */
        private static final String SIGNS = ";+-*/()<=>";
        private static final int SEMICOLON = 13;
        private static final int PLUS = 14;
        private static final int MINUS = 15;
        private static final int TIMES = 16;
        private static final int PART = 17;
        private static final int OPEN = 18;
        private static final int CLOSE = 19;
        private static final int LESS = 20;
        private static final int EQUAL = 21;
        private static final int MORE = 22;
        private static final int END = 23;
        private static final int BAD = 24;

        int length;
        int fault;
        int faultPlace = NONE;
        private final char[] signs = new char[MOST];
        /** The tokens, with one more for the end. */
        private final int[] kind = new int[MOST + 1];
        private final int[] place = new int[MOST + 1];
        private final int[] number = new int[MOST + 1];
        private int tokens;
        /** Which token is read; the end is never gone beyond. */
        private int at;
        /** The want as far as it is read: the old one stays if a fault comes. */
        private final Want draft = new Want();

        boolean hasRoom() {
            return length + FED <= MOST;
        }

        void add(int word) {
            for (int shift = 24; shift >= 0 && length < MOST; shift -= 8) {
                signs[length] = (char) (word >> shift & 255);
                length++;
            }
        }

        void leaveUnread() {
            fault = 0;
            faultPlace = NONE;
            length = 0;
        }

        int readInto(Want want) {
            splitTokens();
            leaveUnread();
            draft.clear();
            at = 0;
            for (int n = 0; n < MOST && kind[at] != END && fault == 0; n++) {
                readLine();
            }
            if (fault != 0) {
                return NONE;
            }
            want.copyFrom(draft);
            return want.lines;
        }

        private boolean fail(int fault) {
            this.fault = fault;
            faultPlace = place[at];
            return false;
        }

        private boolean expect(int wanted) {
            if (kind[at] != wanted) {
                return fail(OUT_OF_PLACE);
            }
            at++;
            return true;
        }

        private boolean readLine() {
            if (kind[at] == WORTH && draft.lines >= MOST_LINES) {
                return fail(TOO_MANY);
            }
            if (!expect(WORTH) || !readSum()) {
                return false;
            }
            int ending = SEMICOLON;
            if (kind[at] == WHEN) {
                ending = WHEN;
                at++;
                if (!readEither(0)) {
                    return false;
                }
            }
            draft.add(~ending);
            draft.lines++;
            return expect(SEMICOLON);
        }

        private boolean readEither(int open) {
            // An or is written down only when all that is joined by and behind it is.
            boolean waiting = false;
            boolean read = readCondition(open);
            for (int n = 0; n < MOST && read && (kind[at] == OR || kind[at] == AND); n++) {
                int joint = kind[at];
                at++;
                if (joint == OR && waiting) {
                    draft.add(~OR);
                }
                read = readCondition(open);
                if (joint == AND) {
                    draft.add(~AND);
                } else {
                    waiting = true;
                }
            }
            if (waiting) {
                draft.add(~OR);
            }
            return read;
        }

        private boolean readCondition(int open) {
            int opening = kind[at];
            if (opening == NOT || opening == OPEN) {
                if (open >= MOST_OPEN) {
                    return fail(TOO_MANY);
                }
                at++;
                if (opening == OPEN) {
                    return readEither(open + 1) && expect(CLOSE);
                }
                boolean denied = readCondition(open + 1);
                draft.add(~NOT);
                return denied;
            }
            if (!readSum()) {
                return false;
            }
            int sign = kind[at];
            if (sign != LESS && sign != EQUAL && sign != MORE) {
                return fail(OUT_OF_PLACE);
            }
            at++;
            boolean read = readSum();
            draft.add(~sign);
            return read;
        }

        private boolean readSum() {
            // A + or - is written down only when the product behind it is.
            int waiting = NONE;
            boolean read = readUnit();
            for (int n = 0; n < MOST && read && kind[at] >= PLUS && kind[at] <= PART; n++) {
                int sign = kind[at];
                boolean isTight = sign == TIMES || sign == PART;
                at++;
                if (!isTight && waiting != NONE) {
                    draft.add(~waiting);
                }
                read = sign == PART ? readDivisor() : readUnit();
                if (isTight) {
                    draft.add(~sign);
                } else {
                    waiting = sign;
                }
            }
            if (waiting != NONE) {
                draft.add(~waiting);
            }
            return read;
        }

        private boolean readDivisor() {
            if (kind[at] != NUMBER) {
                return fail(OUT_OF_PLACE);
            }
            if (number[at] == 0) {
                return fail(PART_BY_ZERO);
            }
            draft.add(number[at]);
            at++;
            return true;
        }

        private boolean readUnit() {
            if (kind[at] == NUMBER) {
                draft.add(number[at]);
            } else if (kind[at] < FACTS) {
                draft.add(~kind[at]);
                draft.asksDay = draft.asksDay || kind[at] == DAY;
            } else {
                return fail(OUT_OF_PLACE);
            }
            at++;
            return true;
        }

        private void splitTokens() {
            tokens = 0;
            int next = 0;
            for (int n = 0; n < MOST && next < length; n++) {
                char sign = signs[next];
                if (sign == 32 || sign == 10) {
                    next++;
                } else if (isLetter(sign)) {
                    next = splitWord(next);
                } else if (isDigit(sign)) {
                    next = splitNumber(next);
                } else {
                    int which = SIGNS.indexOf(sign);
                    addToken(which >= 0 ? SEMICOLON + which : BAD, next, 0);
                    next++;
                }
            }
            addToken(END, length, 0);
        }

        private void addToken(int kind, int place, int number) {
            if (tokens < this.kind.length) {
                this.kind[tokens] = kind;
                this.place[tokens] = place;
                this.number[tokens] = number;
                tokens++;
            }
        }

        private int splitWord(int start) {
            int end = start;
            while (end < length && isLetter(signs[end])) {
                end++;
            }
            addToken(keywordOf(start, end), start, 0);
            return end;
        }

        private int keywordOf(int start, int end) {
            int keyword = 0;
            int first = 0;
            for (int i = 0; i < KEYWORDS.length(); i++) {
                if (KEYWORDS.charAt(i) == ' ') {
                    if (i - first == end - start && isKeyword(first, i, start)) {
                        return keyword;
                    }
                    keyword++;
                    first = i + 1;
                }
            }
            return BAD;
        }

        private boolean isKeyword(int first, int end, int start) {
            for (int i = first; i < end; i++) {
                if (KEYWORDS.charAt(i) != signs[start + i - first]) {
                    return false;
                }
            }
            return true;
        }

        private int splitNumber(int start) {
            int end = start;
            int value = 0;
            while (end < length && isDigit(signs[end])) {
                if (end - start < MOST_DIGITS) {
                    value = value * 10 + (signs[end] - '0');
                }
                end++;
            }
            addToken(end - start <= MOST_DIGITS ? NUMBER : BAD, start, value);
            return end;
        }

        private static boolean isLetter(char c) {
            return c >= 'a' && c <= 'z' || c >= 'A' && c <= 'Z';
        }

        private static boolean isDigit(char c) {
            return c >= '0' && c <= '9';
        }
    }

    /**
     * What a day is worth to an owner. Owners of one want at one angle get the same, so what was reckoned is
     * kept for the month or day for which a want was asked last.
     */
    private static final class Worths {
        private static final int MOST_STACK = 40;

        private final int[] value = new int[WANTS * MOST_NOTCHES * 2];
        /** A value holds if its stamp is its want's. */
        private final int[] stamp = new int[WANTS * MOST_NOTCHES * 2];
        private final int[] wantStamp = new int[WANTS];
        private final int[] wantTime = new int[WANTS];
        private int stamps;
        private final int[] facts = new int[Tape.FACTS];
        private final int[] stack = new int[MOST_STACK];

        Worths() {
            Arrays.fill(wantTime, NONE);
        }

        void forget() {
            Arrays.fill(wantTime, NONE);
        }

        int worthTo(Island isle, int owner, int day, int angle, int turn) {
            int want = isle.plots.want[owner];
            if (!within(want, 0, WANTS - 1)) {
                return 0;
            }
            int month = day / MONTH_DAYS % MONTHS;
            int time = isle.wants[want].asksDay ? MONTHS + day : month;
            if (wantTime[want] != time) {
                wantTime[want] = time;
                stamps++;
                wantStamp[want] = stamps;
            }
            int place = isle.angleOf(owner, angle);
            int made = turn == 0 ? 0 : 1;
            int cell = (want * MOST_NOTCHES + place) * 2 + made;
            if (stamp[cell] != wantStamp[want]) {
                stamp[cell] = wantStamp[want];
                gatherFacts(isle, place, day, made);
                value[cell] = isle.wants[want].valueOf(facts, stack);
            }
            return value[cell];
        }

        private void gatherFacts(Island isle, int place, int day, int made) {
            int month = day / MONTH_DAYS % MONTHS;
            facts[Tape.ANGLE] = place;
            for (int what = 0; what < SKIES; what++) {
                facts[Tape.SUN + what] = isle.sky[Island.skyCell(what, month, place)];
            }
            facts[Tape.MONTH] = month;
            facts[Tape.DAY] = day;
            facts[Tape.TURNED] = made;
        }
    }

    /**
     * What the turns of the next days are worth. The island is told by how far it has gone round from where it
     * is now, as in some days it can't have gone further than a notch a day.
     */
    private static final class Outlook {
        private static final int FAR = 2 * BEST_DAYS + 1;
        private static final int NEAR = 2 * FAIR_DAYS + 1;

        private final Worths worths;
        private int days;
        /** By day, by how far round behind the turn, and by whether there was one. */
        private final int[] cells = new int[BEST_DAYS * FAR * 2];
        /** The same of each owner by himself. */
        private final int[][] ownCells = new int[MOST_PLOTS][FAIR_DAYS * NEAR * 2];
        /** By day and how far round in its morning: what is still to come. */
        private final int[] ahead = new int[(BEST_DAYS + 1) * FAR];
        final int[] turns = new int[BEST_DAYS];
        private final int[] tried = new int[FAIR_DAYS];
        /** What each owner has in the mornings of the days that are tried. */
        private final int[][] had = new int[FAIR_DAYS + 1][MOST_PLOTS];
        private final int[] share = new int[MOST_PLOTS];
        int least;
        int together;
        private boolean found;

        Outlook(Worths worths) {
            this.worths = worths;
        }

        private int cellOf(int day, int round, int turn) {
            return (day * (2 * days + 1) + days + round) * 2 + (turn == 0 ? 0 : 1);
        }

        private int aheadOf(int day, int round) {
            return day * (2 * days + 1) + days + round;
        }

        /** Fills cells with what the owners of a set have together, where the island can be. */
        private void gather(Island isle, int set, int[] into) {
            for (int day = 0; day < days; day++) {
                for (int turn = 0; turn <= 1; turn++) {
                    for (int round = -day - turn; round <= day + turn; round++) {
                        int angle = wrap(isle.angle + round, isle.notches);
                        int sum = 0;
                        for (int p = 0; p < isle.plots.count; p++) {
                            if ((set >> p & 1) != 0) {
                                sum += worths.worthTo(isle, p, isle.day + day, angle, turn);
                            }
                        }
                        into[cellOf(day, round, turn)] = sum;
                    }
                }
            }
        }

        private void gatherEach(Island isle) {
            for (int p = 0; p < isle.plots.count; p++) {
                gather(isle, 1 << p, ownCells[p]);
            }
        }

        /** The greatest or least that the cells give by any turns. */
        private int reckon(boolean greatest) {
            for (int round = -days; round <= days; round++) {
                ahead[aheadOf(days, round)] = 0;
            }
            for (int day = days - 1; day >= 0; day--) {
                for (int round = -day; round <= day; round++) {
                    int chosen = withTurn(day, round, 0);
                    int forward = withTurn(day, round, 1);
                    int backward = withTurn(day, round, -1);
                    ahead[aheadOf(day, round)] = greatest
                            ? Math.max(chosen, Math.max(forward, backward))
                            : Math.min(chosen, Math.min(forward, backward));
                }
            }
            return ahead[aheadOf(0, 0)];
        }

        private int withTurn(int day, int round, int turn) {
            return cells[cellOf(day, round + turn, turn)] + ahead[aheadOf(day + 1, round + turn)];
        }

        int findBest(Island isle, int m) {
            days = m;
            gather(isle, isle.plots.all(), cells);
            int most = reckon(true);
            int round = 0;
            for (int day = 0; day < days; day++) {
                turns[day] = firstTurn(day, round);
                round += turns[day];
            }
            return most;
        }

        private int firstTurn(int day, int round) {
            for (int k = 0; k < ORDER.length; k++) {
                if (withTurn(day, round, ORDER[k]) == ahead[aheadOf(day, round)]) {
                    return ORDER[k];
                }
            }
            return 0;
        }

        int findAlone(Island isle, int set, int m) {
            days = m;
            gather(isle, set, cells);
            return reckon(isle.plots.isEnough(isle.plots.weightOf(set)));
        }

        void findFair(Island isle, int m) {
            days = m;
            gatherEach(isle);
            found = false;
            Arrays.fill(had[0], 0);
            tryTurns(isle.plots.count, 0, 0);
        }

        private void tryTurns(int owners, int day, int round) {
            if (day >= days || day >= FAIR_DAYS) {
                weighTried(owners);
                return;
            }
            for (int k = 0; k < ORDER.length; k++) {
                int turn = ORDER[k];
                int cell = cellOf(day, round + turn, turn);
                for (int p = 0; p < owners; p++) {
                    had[day + 1][p] = had[day][p] + ownCells[p][cell];
                }
                tried[day] = turn;
                tryTurns(owners, day + 1, round + turn);
            }
        }

        private void weighTried(int owners) {
            int[] has = had[days];
            int low = owners > 0 ? has[0] : 0;
            int sum = 0;
            for (int p = 0; p < owners; p++) {
                low = Math.min(low, has[p]);
                sum += has[p];
            }
            if (!found || low > least || low == least && sum > together) {
                found = true;
                least = low;
                together = sum;
                System.arraycopy(tried, 0, turns, 0, days);
            }
        }

        int findLeavers(Island isle, int m) {
            findBest(isle, m);
            gatherEach(isle);
            shareOut(isle.plots);
            Arrays.fill(cells, 0);
            int all = isle.plots.all();
            int leavers = NONE;
            int set = 0;
            int shares = 0;
            int weights = 0;
            // From one set to the next a single owner comes or goes, so sums needn't be made anew.
            for (int step = 1; step <= all; step++) {
                int owner = Math.min(Integer.numberOfTrailingZeros(step), MOST_PLOTS - 1);
                set ^= 1 << owner;
                int sign = (set >> owner & 1) != 0 ? 1 : -1;
                shares += sign * share[owner];
                weights += sign * isle.plots.weight[owner];
                addOwn(owner, sign);
                if (isAhead(set, leavers) && shares < reckon(isle.plots.isEnough(weights))) {
                    leavers = set;
                }
            }
            return leavers;
        }

        private void shareOut(Plots plots) {
            for (int p = 0; p < plots.count; p++) {
                share[p] = plots.payment[p];
                int round = 0;
                for (int day = 0; day < days; day++) {
                    round += turns[day];
                    share[p] += ownCells[p][cellOf(day, round, turns[day])];
                }
            }
        }

        private void addOwn(int owner, int sign) {
            int[] own = ownCells[owner];
            int used = Math.min(own.length, days * (2 * days + 1) * 2);
            for (int i = 0; i < used; i++) {
                cells[i] += sign * own[i];
            }
        }

        private static boolean isAhead(int set, int other) {
            if (other == NONE) {
                return true;
            }
            int more = Integer.bitCount(set) - Integer.bitCount(other);
            return more < 0 || more == 0 && set < other;
        }
    }

    /** Turns told back from logs. */
    private static final class Tracing {
        private static final long MOST_ROWS = 100000000000000000L;

        int start;
        final int[] turns = new int[BACK_DAYS];
        private int days;
        /** By day and the island's angle in its morning: how many rows of turns go on from there. */
        private final long[] ways = new long[(BACK_DAYS + 1) * MOST_NOTCHES];
        /** By day and the island's angle behind its noon: whether a log speaks against it. */
        private final boolean[] denied = new boolean[BACK_DAYS * MOST_NOTCHES];

        long countRows(Island isle, int a, int b) {
            days = b - a + 1;
            for (int day = 0; day < days; day++) {
                for (int angle = 0; angle < isle.notches; angle++) {
                    denied[day * MOST_NOTCHES + angle] = false;
                }
            }
            for (int n = 0; n < isle.logs.count; n++) {
                if (within(isle.logs.day[n], a, b)) {
                    denyUnlike(isle, n, isle.logs.day[n] - a);
                }
            }
            countWays(isle.notches);
            long rows = 0;
            for (int angle = 0; angle < isle.notches; angle++) {
                rows += ways[angle];
            }
            return Math.min(rows, MOST_ROWS);
        }

        private void denyUnlike(Island isle, int log, int day) {
            for (int angle = 0; angle < isle.notches; angle++) {
                if (isle.angleOf(isle.logs.plot[log], angle) != isle.logs.angle[log]) {
                    denied[day * MOST_NOTCHES + angle] = true;
                }
            }
        }

        private void countWays(int notches) {
            for (int angle = 0; angle < notches; angle++) {
                ways[days * MOST_NOTCHES + angle] = 1;
            }
            for (int day = days - 1; day >= 0; day--) {
                for (int angle = 0; angle < notches; angle++) {
                    long sum = 0;
                    for (int k = 0; k < ORDER.length; k++) {
                        sum += waysBehind(day, wrap(angle + ORDER[k], notches));
                    }
                    ways[day * MOST_NOTCHES + angle] = Math.min(sum, MOST_ROWS);
                }
            }
        }

        private long waysBehind(int day, int angle) {
            return denied[day * MOST_NOTCHES + angle] ? 0 : ways[(day + 1) * MOST_NOTCHES + angle];
        }

        /** Is asked only where there are rows. */
        void findFirst(int notches) {
            start = 0;
            while (start < notches - 1 && ways[start] == 0) {
                start++;
            }
            int angle = start;
            for (int day = 0; day < days; day++) {
                turns[day] = firstTurn(day, angle, notches);
                angle = wrap(angle + turns[day], notches);
            }
        }

        private int firstTurn(int day, int angle, int notches) {
            for (int k = 0; k < ORDER.length; k++) {
                if (waysBehind(day, wrap(angle + ORDER[k], notches)) > 0) {
                    return ORDER[k];
                }
            }
            return 0;
        }
    }
}
