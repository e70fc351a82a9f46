import java.util.Random;

/** Texts by chance: most keep to the grammar, some have a sign changed, left out or put in. */
final class RandomText {
    private static final String[] UNITS = {"angle", "sun", "wind", "current", "month", "day", "turned"};
    private static final String[] SPOILERS = {";", "+", "-", "*", "/", "(", ")", "<", "=", ">", " ", "\n", "\t",
        "worth", "when", "or", "and", "not", "sun", "7", "0", "12345", "/0", "/000", "X", "Sun", "\u00e9", "!",
        "", "", ""};

    private final Random chance;

    RandomText(Random chance) {
        this.chance = chance;
    }

    String text() {
        StringBuilder text = new StringBuilder();
        int lines = chance.nextInt(12) == 0 ? 14 + chance.nextInt(5) : chance.nextInt(5);
        for (int i = 0; i < lines; i++) {
            String line = line(lines > 10);
            if (text.length() + line.length() < 390) {
                text.append(line);
            }
        }
        if (chance.nextInt(5) == 0) {
            spoil(text);
        }
        return text.length() > 399 ? text.substring(0, 399) : text.toString();
    }

    private void spoil(StringBuilder text) {
        for (int i = chance.nextInt(3); i >= 0; i--) {
            int at = chance.nextInt(text.length() + 1);
            int end = Math.min(text.length(), at + chance.nextInt(3));
            text.replace(at, end, SPOILERS[chance.nextInt(SPOILERS.length)]);
        }
    }

    private String line(boolean small) {
        String when = chance.nextInt(3) > 0 && !small ? " when " + either(0) : "";
        String line = "worth " + (small ? unit() : sum()) + when + ";";
        return chance.nextInt(4) == 0 ? line + (chance.nextBoolean() ? " " : "\n") : line;
    }

    private String either(int depth) {
        StringBuilder b = new StringBuilder(condition(depth));
        while (chance.nextInt(3) == 0) {
            b.append(chance.nextBoolean() ? " or " : " and ").append(condition(depth));
        }
        return b.toString();
    }

    private String condition(int depth) {
        int most = chance.nextInt(200) == 0 ? 12 : 3;
        int kind = chance.nextInt(depth > 12 ? 1 : 6);
        if (kind == 1 || kind == 2 && depth < most || most == 12 && depth < 9) {
            return kind == 1 || chance.nextBoolean() ? "not " + condition(depth + 1) : "(" + either(depth + 1) + ")";
        }
        return sum() + "<=>".charAt(chance.nextInt(3)) + sum();
    }

    private String sum() {
        StringBuilder b = new StringBuilder(product());
        while (chance.nextInt(3) == 0) {
            b.append(chance.nextBoolean() ? "+" : "-").append(product());
        }
        return b.toString();
    }

    private String product() {
        StringBuilder b = new StringBuilder(unit());
        while (chance.nextInt(4) == 0) {
            b.append(chance.nextInt(3) > 0 ? "*" + unit() : "/" + (1 + chance.nextInt(9)));
        }
        return b.toString();
    }

    private String unit() {
        if (chance.nextInt(3) > 0) {
            return UNITS[chance.nextInt(UNITS.length)];
        }
        return String.valueOf(chance.nextInt(chance.nextInt(10) == 0 ? 10000 : 10));
    }
}
