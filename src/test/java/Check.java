/** Counts the answers that are not as due, and tells them. */
final class Check {
    private int made;
    private int wrong;
    /** What is tested just now; stands ahead of what is told. */
    private String about = "";

    void about(String what) {
        about = what.isEmpty() ? "" : what + ": ";
    }

    int made() {
        return made;
    }

    void due(String call, long got, long want) {
        made++;
        if (got != want) {
            wrong++;
            System.out.println(about + call + " answered " + got + ", due is " + want);
        }
    }

    void due(String call, boolean got, boolean want) {
        due(call, got ? 1 : 0, want ? 1 : 0);
    }

    void yes(String call, boolean got) {
        due(call, got, true);
    }

    void no(String call, boolean got) {
        due(call, got, false);
    }

    /** To be called last: the exit code tells whether all was as due. */
    void close() {
        System.out.println(made + " answers looked at, " + wrong + " not as due");
        if (wrong != 0 || made == 0) {
            System.exit(1);
        }
    }

    /** Puts a text on the tape, which must be empty. */
    static void feed(TurnedIsland x, String text) {
        StringBuilder padded = new StringBuilder(text);
        while (padded.length() % 20 != 0) {
            padded.append(' ');
        }
        for (int i = 0; i < padded.length(); i += 20) {
            x.feed(word(padded, i), word(padded, i + 4), word(padded, i + 8), word(padded, i + 12),
                    word(padded, i + 16));
        }
        x.end(text.length());
    }

    static int word(CharSequence text, int at) {
        int word = 0;
        for (int i = 0; i < 4; i++) {
            word = word << 8 | text.charAt(at + i) & 255;
        }
        return word;
    }

    static int tell(TurnedIsland x, int k, String text) {
        feed(x, text);
        return x.text(k);
    }

    /** Plots of weight 1 without a want, all at place 0. */
    static TurnedIsland island(int plots) {
        TurnedIsland x = new TurnedIsland();
        for (int p = 0; p < plots; p++) {
            x.plot(0, 1, 4, 0);
        }
        return x;
    }
}
