import java.math.BigInteger;
import java.util.ArrayList;
import java.util.Arrays;
import java.util.HashMap;
import java.util.List;
import java.util.Map;
import java.util.TreeMap;

/**
 * The document once more, written with the whole Java library, by trying everything and without any thought of
 * speed: what TurnedIsland answers is compared with it.
 */
final class Model {
    private static final int[] ORDER = {0, 1, -1};

    /** What an image holds. */
    private static final class State {
        int notches = 12;
        int angle;
        int day;
        int grease = 99;
        int pull;
        int[][][] sky = new int[3][12][24];
        /** place, weight, want, coin, payment */
        List<int[]> plots = new ArrayList<>();
        List<int[]> sales = new ArrayList<>();
        /** owner, turn, from, until, dropped */
        List<int[]> promises = new ArrayList<>();
        List<int[]> logs = new ArrayList<>();
        int[] plans = new int[60];
        TreeMap<Integer, Integer> book = new TreeMap<>();
        ModelText[] wants = {ModelText.EMPTY, ModelText.EMPTY, ModelText.EMPTY, ModelText.EMPTY};

        State copy() {
            State c = new State();
            c.notches = notches;
            c.angle = angle;
            c.day = day;
            c.grease = grease;
            c.pull = pull;
            for (int i = 0; i < 3; i++) {
                for (int j = 0; j < 12; j++) {
                    c.sky[i][j] = sky[i][j].clone();
                }
            }
            plots.forEach(p -> c.plots.add(p.clone()));
            sales.forEach(p -> c.sales.add(p.clone()));
            promises.forEach(p -> c.promises.add(p.clone()));
            logs.forEach(p -> c.logs.add(p.clone()));
            c.plans = plans.clone();
            c.book.putAll(book);
            c.wants = wants.clone();
            return c;
        }
    }

    private State s = new State();
    private State image;
    private StringBuilder tape = new StringBuilder();
    private int fault;
    private int faultPlace = -1;
    /** States ahead of the noons that can be undone. */
    private List<State> past = new ArrayList<>();

    private static boolean in(int v, int a, int b) {
        return a <= v && v <= b;
    }

    private boolean isPlot(int p) {
        return in(p, 0, s.plots.size() - 1);
    }

    private boolean isAngle(int a) {
        return in(a, 0, s.notches - 1);
    }

    boolean notches(int n) {
        if (!in(n, 4, 24)) {
            return false;
        }
        s = new State();
        s.notches = n;
        past.clear();
        return true;
    }

    boolean sky(int what, int month, int angle, int v) {
        if (!in(what, 0, 2) || !in(month, 0, 11) || !isAngle(angle) || !in(v, -9, 9)) {
            return false;
        }
        s.sky[what][month][angle] = v;
        past.clear();
        return true;
    }

    int plot(int place, int weight, int want, int coin) {
        if (!isAngle(place) || !in(weight, 1, 9) || !in(want, 0, 4) || !in(coin, -99999, 99999)
                || s.plots.size() == 10) {
            return -1;
        }
        s.plots.add(new int[] {place, weight, want, coin, 0});
        past.clear();
        return s.plots.size() - 1;
    }

    boolean set(int what, int v) {
        if (what == 0 && isAngle(v)) {
            s.angle = v;
        } else if (what == 1 && in(v, 0, 9999)) {
            s.day = v;
            s.book.clear();
        } else if (what == 2 && in(v, 0, 999)) {
            s.grease = v;
        } else if (what == 3 && in(v, 0, 99)) {
            s.pull = v;
        } else {
            return false;
        }
        past.clear();
        return true;
    }

    int feed(int... words) {
        if (tape.length() + 20 > 400) {
            return -1;
        }
        for (int w : words) {
            for (int i = 0; i < 4; i++) {
                tape.append((char) (w >>> 24 - 8 * i & 255));
            }
        }
        return tape.length();
    }

    boolean end(int n) {
        if (!in(n, 0, tape.length())) {
            return false;
        }
        tape.setLength(n);
        return true;
    }

    int text(int k) {
        String text = tape.toString();
        tape.setLength(0);
        fault = 0;
        faultPlace = -1;
        if (!in(k, 0, 3)) {
            return -1;
        }
        try {
            s.wants[k] = ModelText.of(text);
            return s.wants[k].lines();
        } catch (ModelText.Fault f) {
            fault = f.number;
            faultPlace = f.place;
            return -1;
        }
    }

    int fault(int what) {
        return what == 0 ? fault : what == 1 ? faultPlace : -1;
    }

    private int value(int owner, int day, int angle, int turn) {
        int[] p = s.plots.get(owner);
        if (p[2] == 4) {
            return 0;
        }
        int at = (p[0] + angle) % s.notches;
        int month = day / 30 % 12;
        Map<String, Integer> facts = new HashMap<>();
        facts.put("angle", at);
        facts.put("sun", s.sky[0][month][at]);
        facts.put("wind", s.sky[1][month][at]);
        facts.put("current", s.sky[2][month][at]);
        facts.put("month", month);
        facts.put("day", day);
        facts.put("turned", turn * turn);
        BigInteger v = s.wants[p[2]].value(facts);
        return v.max(BigInteger.valueOf(-9999)).min(BigInteger.valueOf(9999)).intValueExact();
    }

    int worth(int owner, int day, int angle, int turn) {
        if (!isPlot(owner) || !in(day, 0, 9999) || !isAngle(angle) || !in(turn, -1, 1)) {
            return -100000;
        }
        return value(owner, day, angle, turn);
    }

    boolean sell(int plot, int to, int from, int until, int price) {
        if (!isPlot(plot) || !isPlot(to) || plot == to || from < s.day || until > 9999 || until < from
                || !in(price, 0, 9999) || s.sales.size() == 60) {
            return false;
        }
        for (int day = from; day <= until; day++) {
            if (keeper(plot, day) != plot) {
                return false;
            }
        }
        s.sales.add(new int[] {plot, to, from, until});
        s.plots.get(to)[3] -= price;
        s.plots.get(plot)[3] += price;
        past.clear();
        return true;
    }

    private int keeper(int plot, int day) {
        for (int[] sale : s.sales) {
            if (sale[0] == plot && in(day, sale[2], sale[3])) {
                return sale[1];
            }
        }
        return plot;
    }

    int promise(int owner, int turn, int from, int until) {
        if (!isPlot(owner) || !in(turn, -1, 1) || from < 0 || until > 9999 || until < from
                || s.promises.size() == 24 || s.promises.stream().filter(p -> p[0] == owner).count() == 10) {
            return -1;
        }
        s.promises.add(new int[] {owner, turn, from, until, 0});
        past.clear();
        return s.promises.size() - 1;
    }

    boolean drop(int promise) {
        if (!in(promise, 0, s.promises.size() - 1) || s.promises.get(promise)[4] == 1) {
            return false;
        }
        s.promises.get(promise)[4] = 1;
        past.clear();
        return true;
    }

    private int mod(int angle) {
        return (angle % s.notches + s.notches) % s.notches;
    }

    private int ballot(int owner) {
        for (int[] p : s.promises) {
            if (p[0] == owner && p[4] == 0 && in(s.day, p[2], p[3])) {
                return p[1];
            }
        }
        int stay = value(owner, s.day, s.angle, 0);
        int on = value(owner, s.day, mod(s.angle + 1), 1);
        int back = value(owner, s.day, mod(s.angle - 1), -1);
        if (stay >= on && stay >= back) {
            return 0;
        }
        return on >= back ? 1 : -1;
    }

    int votes(int plot) {
        return isPlot(plot) ? ballot(keeper(plot, s.day)) + 2 : -1;
    }

    int holder(int plot, int day) {
        return isPlot(plot) && in(day, 0, 9999) ? keeper(plot, day) : -1;
    }

    int noons(int n) {
        if (!in(n, 1, 400) || s.day + n > 9999) {
            return -1;
        }
        int made = 0;
        for (int i = 0; i < n; i++) {
            past.add(s.copy());
            if (past.size() > 10) {
                past.remove(0);
            }
            made += Math.abs(noon());
        }
        return made;
    }

    private int noon() {
        int all = 0;
        Map<Integer, Integer> weights = new HashMap<>();
        Map<Integer, java.util.TreeSet<Integer>> voters = new HashMap<>();
        for (int p = 0; p < s.plots.size(); p++) {
            int holder = keeper(p, s.day);
            int vote = ballot(holder);
            all += s.plots.get(p)[1];
            weights.merge(vote, s.plots.get(p)[1], Integer::sum);
            voters.computeIfAbsent(vote, v -> new java.util.TreeSet<>()).add(holder);
        }
        int turn = 0;
        for (int t = -1; t <= 1; t += 2) {
            if (weights.getOrDefault(t, 0) * 2 > all && s.grease > 0) {
                turn = t;
            }
        }
        if (turn != 0) {
            s.angle = mod(s.angle + turn);
            s.grease--;
            for (int holder : voters.get(turn)) {
                s.plots.get(holder)[3] -= s.pull;
            }
        }
        for (int p = 0; p < s.plots.size(); p++) {
            s.plots.get(p)[3] += value(p, s.day, s.angle, turn);
        }
        s.book.put(s.day, turn);
        if (s.book.size() > 400) {
            s.book.pollFirstEntry();
        }
        s.day++;
        return turn;
    }

    int of(int plot, int what) {
        if (!isPlot(plot) || !in(what, 0, 6)) {
            return -100000;
        }
        int[] p = s.plots.get(plot);
        if (what < 4) {
            return p[what];
        }
        return what == 4 ? mod(p[0] + s.angle) : what == 5 ? pivots(plot) : swings(plot);
    }

    private int weights(int set) {
        int sum = 0;
        for (int p = 0; p < s.plots.size(); p++) {
            sum += (set >> p & 1) * s.plots.get(p)[1];
        }
        return sum;
    }

    private int everyone() {
        return (1 << s.plots.size()) - 1;
    }

    private boolean enough(int set) {
        return 2 * weights(set) > weights(everyone());
    }

    private int swings(int plot) {
        int sum = 0;
        for (int set = 0; set <= everyone(); set++) {
            if ((set >> plot & 1) == 0 && !enough(set) && enough(set | 1 << plot)) {
                sum++;
            }
        }
        return sum;
    }

    /** Orders are made one by one; from eight plots on they are counted by the sets that come first. */
    private int pivots(int plot) {
        Map<Integer, Integer> memo = s.plots.size() < 8 ? null : new HashMap<>();
        return ordersFrom(0, plot, memo);
    }

    private int ordersFrom(int come, int plot, Map<Integer, Integer> memo) {
        if (enough(come)) {
            return 0;
        }
        if (memo != null && memo.containsKey(come)) {
            return memo.get(come);
        }
        int sum = 0;
        for (int p = 0; p < s.plots.size(); p++) {
            if ((come >> p & 1) == 0) {
                int now = come | 1 << p;
                if (!enough(now)) {
                    sum += ordersFrom(now, plot, memo);
                } else if (p == plot) {
                    int rest = 1;
                    for (int k = 2; k <= s.plots.size() - Integer.bitCount(now); k++) {
                        rest *= k;
                    }
                    sum += rest;
                }
            }
        }
        if (memo != null) {
            memo.put(come, sum);
        }
        return sum;
    }

    int turned(int day) {
        return s.book.containsKey(day) ? s.book.get(day) + 2 : -1;
    }

    /** By day, angle behind the turn, turned and owner. */
    private int[][][][] table(int m) {
        int[][][][] t = new int[m][s.notches][2][s.plots.size()];
        for (int i = 0; i < m; i++) {
            for (int a = 0; a < s.notches; a++) {
                for (int turned = 0; turned < 2; turned++) {
                    for (int p = 0; p < s.plots.size(); p++) {
                        t[i][a][turned][p] = value(p, s.day + i, a, turned);
                    }
                }
            }
        }
        return t;
    }

    /** Every row of turns in the document's order. */
    private static List<int[]> rows(int m) {
        List<int[]> all = new ArrayList<>();
        if (m == 0) {
            all.add(new int[0]);
            return all;
        }
        for (int turn : ORDER) {
            for (int[] tail : rows(m - 1)) {
                int[] row = new int[m];
                row[0] = turn;
                System.arraycopy(tail, 0, row, 1, m - 1);
                all.add(row);
            }
        }
        return all;
    }

    private int[] shares(int[] row, int[][][][] table) {
        int[] sums = new int[s.plots.size()];
        int a = s.angle;
        for (int i = 0; i < row.length; i++) {
            a = mod(a + row[i]);
            for (int p = 0; p < sums.length; p++) {
                sums[p] += table[i][a][row[i] * row[i]][p];
            }
        }
        return sums;
    }

    /** Up to six days by all rows, beyond by the best that can still come. */
    private int[] bestRow(int m) {
        int[][][][] table = table(m);
        if (m > 6) {
            int[] row = new int[m];
            bestFrom(0, s.angle, table, new HashMap<>());
            Map<Integer, Integer> memo = new HashMap<>();
            bestFrom(0, s.angle, table, memo);
            int a = s.angle;
            for (int i = 0; i < m; i++) {
                for (int turn : ORDER) {
                    int next = mod(a + turn);
                    int v = Arrays.stream(table[i][next][turn * turn]).sum() + bestFrom(i + 1, next, table, memo);
                    if (v == bestFrom(i, a, table, memo)) {
                        row[i] = turn;
                        break;
                    }
                }
                a = mod(a + row[i]);
            }
            return row;
        }
        int[] best = null;
        int most = 0;
        for (int[] row : rows(m)) {
            int sum = Arrays.stream(shares(row, table)).sum();
            if (best == null || sum > most) {
                best = row;
                most = sum;
            }
        }
        return best;
    }

    private int bestFrom(int i, int a, int[][][][] table, Map<Integer, Integer> memo) {
        if (i == table.length) {
            return 0;
        }
        Integer known = memo.get(i * 100 + a);
        if (known != null) {
            return known;
        }
        int most = Integer.MIN_VALUE;
        for (int turn : ORDER) {
            int next = mod(a + turn);
            most = Math.max(most, Arrays.stream(table[i][next][turn * turn]).sum()
                    + bestFrom(i + 1, next, table, memo));
        }
        memo.put(i * 100 + a, most);
        return most;
    }

    int best(int m, int what) {
        if (!in(m, 1, 30) || what != 0 && !in(what, 10, 9 + m)) {
            return -1000000;
        }
        int[] row = bestRow(m);
        return what == 0 ? Arrays.stream(shares(row, table(m))).sum() : row[what - 10] + 2;
    }

    int fair(int m, int what) {
        if (!in(m, 1, 6) || what != 0 && what != 1 && !in(what, 10, 9 + m)) {
            return -1000000;
        }
        int[][][][] table = table(m);
        int[] best = null;
        int least = 0;
        int together = 0;
        for (int[] row : rows(m)) {
            int[] shares = shares(row, table);
            int low = Arrays.stream(shares).min().orElse(0);
            int sum = Arrays.stream(shares).sum();
            if (best == null || low > least || low == least && sum > together) {
                best = row;
                least = low;
                together = sum;
            }
        }
        return what == 0 ? least : what == 1 ? together : best[what - 10] + 2;
    }

    int alone(int set, int m) {
        if (set < 1 || set > everyone() || !in(m, 1, 6)) {
            return -1000000;
        }
        return alone(set, sharesOfRows(m));
    }

    private List<int[]> sharesOfRows(int m) {
        int[][][][] table = table(m);
        List<int[]> all = new ArrayList<>();
        for (int[] row : rows(m)) {
            all.add(shares(row, table));
        }
        return all;
    }

    private int alone(int set, List<int[]> sharesOfRows) {
        int high = Integer.MIN_VALUE;
        int low = Integer.MAX_VALUE;
        for (int[] shares : sharesOfRows) {
            int sum = sumOf(set, shares);
            high = Math.max(high, sum);
            low = Math.min(low, sum);
        }
        return enough(set) ? high : low;
    }

    private static int sumOf(int set, int[] shares) {
        int sum = 0;
        for (int p = 0; p < shares.length; p++) {
            sum += (set >> p & 1) * shares[p];
        }
        return sum;
    }

    boolean pay(int owner, int v) {
        if (!isPlot(owner) || !in(v, -99999, 99999)) {
            return false;
        }
        s.plots.get(owner)[4] = v;
        return true;
    }

    int leave(int m) {
        if (!in(m, 1, 6)) {
            return -1;
        }
        int[] has = shares(bestRow(m), table(m));
        for (int p = 0; p < has.length; p++) {
            has[p] += s.plots.get(p)[4];
        }
        List<int[]> sharesOfRows = sharesOfRows(m);
        for (int size = 1; size <= has.length; size++) {
            for (int set = 1; set <= everyone(); set++) {
                if (Integer.bitCount(set) == size && sumOf(set, has) < alone(set, sharesOfRows)) {
                    return set;
                }
            }
        }
        return -1;
    }

    private boolean quarrels(int[] p, int[] q) {
        if (p[0] != q[0] || p[4] == 1 || q[4] == 1 || p[1] == q[1]) {
            return false;
        }
        return Math.max(p[2], q[2]) <= Math.min(p[3], q[3]);
    }

    int quarrel() {
        for (int j = 0; j < s.promises.size(); j++) {
            for (int i = 0; i < j; i++) {
                if (quarrels(s.promises.get(i), s.promises.get(j))) {
                    return j;
                }
            }
        }
        return -1;
    }

    int fewest(int owner) {
        if (!isPlot(owner)) {
            return -1;
        }
        List<Integer> own = new ArrayList<>();
        for (int i = 0; i < s.promises.size(); i++) {
            if (s.promises.get(i)[0] == owner) {
                own.add(i);
            }
        }
        for (int size = 0;; size++) {
            int least = Integer.MAX_VALUE;
            for (int pick = 0; pick < 1 << own.size(); pick++) {
                if (Integer.bitCount(pick) == size) {
                    int set = 0;
                    List<int[]> left = new ArrayList<>();
                    for (int k = 0; k < own.size(); k++) {
                        if ((pick >> k & 1) == 1) {
                            set |= 1 << own.get(k);
                        } else {
                            left.add(s.promises.get(own.get(k)));
                        }
                    }
                    if (left.stream().noneMatch(p -> left.stream().anyMatch(q -> quarrels(p, q)))) {
                        least = Math.min(least, set);
                    }
                }
            }
            if (least != Integer.MAX_VALUE) {
                return least;
            }
        }
    }

    boolean plan(int i, int turn) {
        if (!in(i, 0, 59) || !in(turn, -1, 1)) {
            return false;
        }
        s.plans[i] = turn;
        return true;
    }

    int boat(int plot, int days, int angle) {
        if (!isPlot(plot) || !in(days, 0, 59) || !isAngle(angle)) {
            return -1;
        }
        for (int leaves = 0; leaves + days < 60; leaves++) {
            int a = s.angle;
            for (int i = 0; i <= leaves + days; i++) {
                a += s.plans[i];
            }
            if (mod(a + s.plots.get(plot)[0]) == angle) {
                return leaves;
            }
        }
        return -1;
    }

    boolean log(int day, int plot, int angle) {
        if (!in(day, 0, 9999) || !isPlot(plot) || !isAngle(angle) || s.logs.size() == 40) {
            return false;
        }
        s.logs.add(new int[] {day, plot, angle});
        return true;
    }

    private boolean agrees(int day, int angle) {
        return s.logs.stream().noneMatch(
                l -> l[0] == day && mod(s.plots.get(l[1])[0] + angle) != l[2]);
    }

    private BigInteger rowsFrom(int day, int b, int angle, Map<Integer, BigInteger> memo) {
        if (day > b) {
            return BigInteger.ONE;
        }
        BigInteger known = memo.get(day * 100 + angle);
        if (known != null) {
            return known;
        }
        BigInteger sum = BigInteger.ZERO;
        for (int turn : ORDER) {
            if (agrees(day, mod(angle + turn))) {
                sum = sum.add(rowsFrom(day + 1, b, mod(angle + turn), memo));
            }
        }
        memo.put(day * 100 + angle, sum);
        return sum;
    }

    long back(int a, int b, int what) {
        if (a < 0 || b > 9999 || b < a || b - a + 1 > 40 || what != 0 && what != 1 && !in(what, 10, 10 + b - a)) {
            return -1;
        }
        Map<Integer, BigInteger> memo = new HashMap<>();
        BigInteger sum = BigInteger.ZERO;
        int first = -1;
        for (int angle = 0; angle < s.notches; angle++) {
            BigInteger rows = rowsFrom(a, b, angle, memo);
            if (first < 0 && rows.signum() > 0) {
                first = angle;
            }
            sum = sum.add(rows);
        }
        if (what == 0) {
            return sum.min(BigInteger.TEN.pow(17)).longValueExact();
        }
        if (what == 1 || first < 0) {
            return first;
        }
        int angle = first;
        for (int day = a;; day++) {
            for (int turn : ORDER) {
                int next = mod(angle + turn);
                if (agrees(day, next) && rowsFrom(day + 1, b, next, memo).signum() > 0) {
                    if (day - a == what - 10) {
                        return turn + 2;
                    }
                    angle = next;
                    break;
                }
            }
        }
    }

    boolean undo() {
        if (past.isEmpty()) {
            return false;
        }
        State before = past.remove(past.size() - 1);
        s.angle = before.angle;
        s.day = before.day;
        s.grease = before.grease;
        s.book = before.book;
        for (int p = 0; p < s.plots.size(); p++) {
            s.plots.get(p)[3] = before.plots.get(p)[3];
        }
        return true;
    }

    boolean image(boolean taken) {
        if (taken) {
            image = s.copy();
            return true;
        }
        if (image == null) {
            return false;
        }
        s = image.copy();
        past.clear();
        return true;
    }

    int look(int what) {
        int[] numbers = {s.notches, s.angle, s.day, s.grease, s.pull, s.plots.size(), s.sales.size(),
            s.promises.size(), s.logs.size(), past.size()};
        if (in(what, 0, 9)) {
            return numbers[what];
        }
        if (in(what, 10, 13)) {
            return s.wants[what - 10].lines();
        }
        return in(what, 20, 19 + s.plots.size()) ? s.plots.get(what - 20)[4] : -100000;
    }
}
