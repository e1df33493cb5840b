/** What the tests share: answers that are due, texts that are fed, texts that are read byte by byte. */
final class Due {
    private final String test;
    private int wrong = 0;

    Due(String test) {
        this.test = test;
    }

    void is(String call, long got, long want) {
        if (got != want) {
            wrong++;
            System.out.println(test + ": " + call + " answered " + got + ", due is " + want);
        }
    }

    void is(String call, boolean got, boolean want) {
        is(call, got ? 1 : 0, want ? 1 : 0);
    }

    void is(String call, String got, String want) {
        if (!got.equals(want)) {
            wrong++;
            System.out.println(test + ": " + call + " answered '" + cut(got) + "', due is '" + cut(want) + "'");
        }
    }

    private static String cut(String s) {
        return s.length() > 400 ? s.substring(0, 400) + ".." : s;
    }

    void end() {
        System.out.println(test + (wrong == 0 ? ": as due" : ": " + wrong + " answers are not as due"));
        if (wrong > 0) {
            System.exit(1);
        }
    }

    /** Feeds a text behind what the TAPE has. */
    static void feed(RulerWord x, String text) {
        for (int i = 0; i < text.length(); i += 20) {
            int[] w = new int[5];
            for (int k = 0; k < 20; k++) {
                int next = i + k < text.length() ? text.charAt(i + k) & 255 : 0;
                w[k / 4] = w[k / 4] << 8 | next;
            }
            x.feed(w[0], w[1], w[2], w[3], w[4]);
        }
    }

    static int fault(int what, String text) {
        RulerWord x = new RulerWord();
        feed(x, text);
        return x.fault(what);
    }

    /** An object with a COUNCIL, and a PLAN unless it is empty. */
    static RulerWord of(String council, String plan, long seed) {
        RulerWord x = new RulerWord();
        tell(x, plan);
        feed(x, council);
        if (x.council(seed) == RulerWord.NONE) {
            throw new IllegalArgumentException("no council: " + council);
        }
        return x;
    }

    static RulerWord of(String council) {
        return of(council, "", 1);
    }

    /** A new PLAN, unless it is empty. */
    static void tell(RulerWord x, String plan) {
        if (!plan.isEmpty()) {
            x.end(0);
            feed(x, plan);
            if (x.plan() == RulerWord.NONE) {
                throw new IllegalArgumentException("no plan: " + plan);
            }
        }
    }

    static String shown(RulerWord x, int phase) {
        StringBuilder s = new StringBuilder();
        for (int k = 0; k < x.shown(phase, -1); k++) {
            s.append((char) x.shown(phase, k));
        }
        return s.toString();
    }

    static String brokenPlan(RulerWord x) {
        StringBuilder s = new StringBuilder();
        int length = x.brokenPlan(-1);
        for (int k = 0; k < length; k++) {
            s.append((char) x.brokenPlan(k));
        }
        return s.toString();
    }

    /** What PEERS HOLD now, as bits. */
    static int holds(RulerWord x) {
        int bits = 0;
        for (int i = 0; i < x.rule(1); i++) {
            bits |= x.peer(i, 0) << i;
        }
        return bits;
    }

    /** All that can be looked at without a search: two objects in the same state tell the same. */
    static String everything(RulerWord x) {
        StringBuilder s = new StringBuilder();
        for (int k = 0; k < 12; k++) {
            s.append(x.rule(k)).append(' ');
        }
        for (int k = 0; k < 5; k++) {
            s.append(x.state(k)).append(' ').append(x.letters(k)).append(' ').append(x.most(k)).append(' ');
        }
        for (int i = 0; i < x.rule(1); i++) {
            for (int k = 0; k < 4; k++) {
                s.append(x.peer(i, k)).append(' ').append(x.ruled(i, k)).append(' ');
            }
            for (int phase = 0; phase < x.rule(3); phase++) {
                for (int k = 0; k < 8; k++) {
                    s.append(x.told(i, phase, k)).append(' ');
                }
                for (int j = 0; j < x.rule(1); j++) {
                    for (int round = 0; round < 3; round++) {
                        s.append(x.heard(phase, round, i, j)).append(' ');
                    }
                }
            }
        }
        return s.append(x.agreed()).toString();
    }
}
