import java.math.BigInteger;
import java.util.ArrayList;
import java.util.List;
import java.util.Map;
import java.util.Set;
import java.util.function.Predicate;
import java.util.function.ToIntFunction;
import java.util.regex.Matcher;
import java.util.regex.Pattern;

/** A want of the model, as a tree of functions. */
final class ModelText {
    static final class Fault extends Exception {
        private static final long serialVersionUID = 1;

        final int number;
        final int place;

        Fault(int number, int place) {
            this.number = number;
            this.place = place;
        }
    }

    private static final Set<String> FACTS =
            Set.of("angle", "sun", "wind", "current", "month", "day", "turned");
    private static final Pattern TOKEN = Pattern.compile("[A-Za-z]+|[0-9]+|[^ \n]", Pattern.DOTALL);

    static final ModelText EMPTY = new ModelText();

    private final List<String> words = new ArrayList<>();
    private final List<Integer> places = new ArrayList<>();
    private int at;
    private int open;
    private final List<ToIntFunction<Map<String, Integer>>> sums = new ArrayList<>();
    private final List<Predicate<Map<String, Integer>>> whens = new ArrayList<>();

    private ModelText() {
    }

    static ModelText of(String text) throws Fault {
        ModelText t = new ModelText();
        Matcher m = TOKEN.matcher(text);
        while (m.find()) {
            t.words.add(m.group());
            t.places.add(m.start());
        }
        t.words.add("");
        t.places.add(text.length());
        while (!t.word().isEmpty()) {
            t.line();
        }
        return t;
    }

    int lines() {
        return sums.size();
    }

    BigInteger value(Map<String, Integer> facts) {
        BigInteger sum = BigInteger.ZERO;
        for (int i = 0; i < sums.size(); i++) {
            if (whens.get(i).test(facts)) {
                sum = sum.add(BigInteger.valueOf(sums.get(i).applyAsInt(facts)));
            }
        }
        return sum;
    }

    private String word() {
        return words.get(at);
    }

    private Fault fault(int number) {
        return new Fault(number, places.get(at));
    }

    private void must(String word) throws Fault {
        if (!word().equals(word)) {
            throw fault(1);
        }
        at++;
    }

    private boolean may(String word) {
        if (!word().equals(word)) {
            return false;
        }
        at++;
        return true;
    }

    private void line() throws Fault {
        if (word().equals("worth") && sums.size() == 16) {
            throw fault(3);
        }
        must("worth");
        ToIntFunction<Map<String, Integer>> sum = sum();
        Predicate<Map<String, Integer>> when = may("when") ? either() : f -> true;
        must(";");
        sums.add(sum);
        whens.add(when);
    }

    private Predicate<Map<String, Integer>> either() throws Fault {
        Predicate<Map<String, Integer>> p = both();
        while (may("or")) {
            p = p.or(both());
        }
        return p;
    }

    private Predicate<Map<String, Integer>> both() throws Fault {
        Predicate<Map<String, Integer>> p = condition();
        while (may("and")) {
            p = p.and(condition());
        }
        return p;
    }

    private Predicate<Map<String, Integer>> condition() throws Fault {
        if (word().equals("not") || word().equals("(")) {
            if (open == 8) {
                throw fault(3);
            }
            open++;
            Predicate<Map<String, Integer>> inner;
            if (may("not")) {
                inner = condition().negate();
            } else {
                must("(");
                inner = either();
                must(")");
            }
            open--;
            return inner;
        }
        ToIntFunction<Map<String, Integer>> left = sum();
        String sign = word();
        if (!Set.of("<", "=", ">").contains(sign)) {
            throw fault(1);
        }
        at++;
        ToIntFunction<Map<String, Integer>> right = sum();
        return f -> {
            int order = Integer.compare(left.applyAsInt(f), right.applyAsInt(f));
            return sign.equals("<") ? order < 0 : sign.equals("=") ? order == 0 : order > 0;
        };
    }

    private ToIntFunction<Map<String, Integer>> sum() throws Fault {
        ToIntFunction<Map<String, Integer>> e = product();
        while (word().equals("+") || word().equals("-")) {
            boolean plus = may("+") || !may("-");
            ToIntFunction<Map<String, Integer>> left = e;
            ToIntFunction<Map<String, Integer>> right = product();
            e = plus ? f -> left.applyAsInt(f) + right.applyAsInt(f)
                    : f -> left.applyAsInt(f) - right.applyAsInt(f);
        }
        return e;
    }

    private ToIntFunction<Map<String, Integer>> product() throws Fault {
        ToIntFunction<Map<String, Integer>> e = unit();
        while (word().equals("*") || word().equals("/")) {
            ToIntFunction<Map<String, Integer>> left = e;
            if (may("*")) {
                ToIntFunction<Map<String, Integer>> right = unit();
                e = f -> left.applyAsInt(f) * right.applyAsInt(f);
            } else {
                at++;
                if (!word().matches("[0-9]{1,4}")) {
                    throw fault(1);
                }
                int by = Integer.parseInt(word());
                if (by == 0) {
                    throw fault(2);
                }
                at++;
                e = f -> left.applyAsInt(f) / by;
            }
        }
        return e;
    }

    private ToIntFunction<Map<String, Integer>> unit() throws Fault {
        String word = word();
        if (FACTS.contains(word)) {
            at++;
            return f -> f.get(word);
        }
        if (!word.matches("[0-9]{1,4}")) {
            throw fault(1);
        }
        at++;
        int number = Integer.parseInt(word);
        return f -> number;
    }
}
