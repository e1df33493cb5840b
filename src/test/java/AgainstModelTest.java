import java.util.NoSuchElementException;
import java.util.Random;

/** Long runs of calls, drawn from a fixed seed, each answered by RulerWord and by Model: all promises at once. */
public final class AgainstModelTest {
    private final Random random;
    private final RulerWord x = new RulerWord();
    private final Model m = new Model();
    private final StringBuilder calls = new StringBuilder();
    private boolean wrong = false;

    private AgainstModelTest(long seed) {
        random = new Random(seed);
    }

    public static void main(String[] args) {
        int runs = args.length > 0 ? Integer.parseInt(args[0]) : 300;
        int first = args.length > 1 ? Integer.parseInt(args[1]) : 0;
        int faults = 0;
        for (int seed = first; seed < first + runs && faults < 5; seed++) {
            AgainstModelTest t = new AgainstModelTest(seed);
            for (int k = 0; k < 400 && !t.wrong; k++) {
                t.call();
            }
            faults += t.wrong ? 1 : 0;
        }
        System.out.println(faults == 0 ? "AgainstModelTest: as due" : "AgainstModelTest: " + faults + " runs go wrong");
        if (faults > 0) {
            System.exit(1);
        }
    }

    private void due(String call, int got, int want) {
        calls.append(call).append(" = ").append(want).append('\n');
        if (got != want) {
            wrong = true;
            System.out.println(calls);
            System.out.println(call + " answered " + got + ", due is " + want);
        }
    }

    private int upTo(int n) {
        return random.nextInt(n);
    }

    private boolean oneOf(int n) {
        return random.nextInt(n) == 0;
    }

    /** Mostly 0 to n less 1, now and then beside it. */
    private int near(int n) {
        if (oneOf(12)) {
            int[] odd = {-1, -2, n, n + 1, Integer.MAX_VALUE, Integer.MIN_VALUE, 31, 32, 33, 1 << 30};
            return odd[upTo(odd.length)];
        }
        return upTo(n);
    }

    private int size() {
        return m.sim == null ? 4 : m.sim.r.n;
    }

    private int phases() {
        return m.sim == null ? 2 : m.sim.r.p;
    }

    private String blank() {
        return oneOf(4) ? oneOf(2) ? " " : "   " : "";
    }

    private String digits(int n, int upTo) {
        StringBuilder s = new StringBuilder();
        for (int i = 0; i < n; i++) {
            s.append(upTo(upTo));
        }
        return s.toString();
    }

    private String councilText() {
        int n = oneOf(3) ? 3 + upTo(7) : 3 + upTo(3);
        StringBuilder s = new StringBuilder(blank() + (oneOf(2) ? "king" : "queen") + blank());
        int[] order = {0, 1, 2, 3, 4, 5};
        for (int i = 5; i > 0; i--) {
            int k = upTo(i + 1);
            int o = order[i];
            order[i] = order[k];
            order[k] = o;
        }
        boolean sized = false;
        for (int piece : order) {
            boolean needsSize = piece == 3 || piece == 4;
            if (piece != 0 && oneOf(3) || needsSize && !sized && !oneOf(25)) {
                continue;
            }
            s.append(';').append(blank()).append(piece(piece, n)).append(blank());
            sized |= piece == 0;
        }
        return s.toString();
    }

    private String piece(int piece, int n) {
        switch (piece) {
            case 0:
                return "size " + n;
            case 1:
                return "bound" + blank() + upTo(oneOf(2) ? 5 : 3);
            case 2:
                return "phases " + (1 + upTo(oneOf(2) ? 6 : 3));
            case 3:
                return "starts " + digits(n, 2);
            case 4:
                StringBuilder s = new StringBuilder("false ");
                int set = 0;
                int many = oneOf(3) ? 1 + upTo(n - 1) : 1 + upTo(2);
                while (Integer.bitCount(set) < many) {
                    set |= 1 << upTo(n);
                }
                for (int i = 0; i < n; i++) {
                    s.append((set >> i & 1) == 1 ? "" + i : "");
                }
                return s.toString();
            default:
                return "skip";
        }
    }

    private String planText() {
        StringBuilder s = new StringBuilder();
        int lines = oneOf(10) ? 19 + upTo(3) : 1 + upTo(4);
        for (int i = 0; i < lines; i++) {
            s.append(i == 0 ? "" : ";").append(blank());
            s.append(oneOf(3) ? "phase " + upTo(6) + " " : "");
            s.append(oneOf(3) ? "round" + blank() + upTo(3) + " " : "");
            s.append(oneOf(3) ? "from " + upTo(9) + blank() + " " : "");
            s.append(oneOf(3) ? "to " + upTo(9) + " " : "");
            s.append(new String[] {"0", "1", "2", "same", "turn", "split", "draw", "draw"}[upTo(8)]).append(blank());
        }
        return s.toString();
    }

    private String spoiled(String s) {
        if (!oneOf(5)) {
            return s;
        }
        int at = upTo(s.length());
        String[] odd = {"", " ", ";", "0", "9", "a", "king", "size", ",", "\u00e9", "S", "skip", ";;", "phase"};
        int cut = upTo(3);
        return s.substring(0, at) + odd[upTo(odd.length)] + s.substring(Math.min(s.length(), at + cut));
    }

    private void feed(String s) {
        due("end(0)", x.end(0) ? 1 : 0, m.end(0) ? 1 : 0);
        for (int i = 0; i < s.length(); i += 20) {
            int[] w = new int[5];
            for (int k = 0; k < 20; k++) {
                w[k / 4] = w[k / 4] << 8 | (i + k < s.length() ? s.charAt(i + k) & 255 : 0);
            }
            due("feed '" + s + "'", x.feed(w[0], w[1], w[2], w[3], w[4]), m.feed(w[0], w[1], w[2], w[3], w[4]));
        }
    }

    private void convene() {
        feed(spoiled(councilText()));
        due("fault(0)", x.fault(0), m.fault(0));
        long seed = oneOf(2) ? upTo(10) : random.nextLong();
        due("council(" + seed + ")", x.council(seed), m.council(seed));
    }

    private void newPlan() {
        feed(spoiled(planText()));
        due("fault(1)", x.fault(1), m.fault(1));
        due("plan()", x.plan(), m.plan());
    }

    private void call() {
        int kind = upTo(60);
        if (m.sim == null && oneOf(4) || kind == 0 && oneOf(2)) {
            convene();
        } else if (kind < 3) {
            newPlan();
        } else if (kind < 16) {
            change(upTo(11));
        } else {
            look(upTo(27));
        }
    }

    private void change(int kind) {
        int a = near(phases());
        int b = near(3);
        int c = near(size());
        int d = near(size());
        int e = near(3);
        int bits = near(1 << size());
        switch (kind) {
            case 0, 1:
                due("round()", x.round(), m.round());
                break;
            case 2:
                due("run()", x.run(), m.run());
                break;
            case 3, 4:
                for (int k = oneOf(30) ? 25 : 1; k > 0; k--) {
                    int f = (c + k - 1) % 9;
                    String call = "say(" + a + ", " + b + ", " + f + ", " + d + ", " + e + ")";
                    due(call, x.say(a, b, f, d, e), m.say(a, b, f, d, e));
                }
                break;
            case 5:
                due("starts(" + bits + ")", x.starts(bits), m.starts(bits));
                break;
            case 6:
                due("falseOnes(" + bits + ")", x.falseOnes(bits), m.falseOnes(bits));
                break;
            case 7, 8:
                for (int k = oneOf(8) ? 25 : 1 + upTo(2); k > 0; k--) {
                    due("undo()", x.undo(), m.undo());
                }
                break;
            case 9:
                due("image()", x.image(), m.image());
                break;
            default:
                if (oneOf(2)) {
                    due("back()", x.back(), m.back());
                } else {
                    int n = near(30);
                    due("end(" + n + ")", x.end(n) ? 1 : 0, m.end(n) ? 1 : 0);
                    due("feed(" + a + bits + c + ")", x.feed(a, bits, c, d, e), m.feed(a, bits, c, d, e));
                }
        }
    }

    private void look(int kind) {
        int i = near(size());
        int j = near(size());
        int p = near(phases());
        int w = near(4);
        int v = near(8);
        switch (kind) {
            case 0 -> {
                int r = near(12);
                due("rule(" + r + ")", x.rule(r), m.rule(r));
            }
            case 1 -> due("line(" + v + ", " + w + ")", lineOf(v, w, true), lineOf(v, w, false));
            case 2, 3 -> {
                int r = near(3);
                due("heard(" + p + ", " + r + ", " + i + ", " + j + ")", x.heard(p, r, i, j), m.heard(p, r, i, j));
            }
            case 4 -> due("peer(" + i + ", " + w + ")", x.peer(i, w), m.peer(i, w));
            case 5, 6 -> due("told(" + i + ", " + p + ", " + v + ")", x.told(i, p, v), m.told(i, p, v));
            case 7 -> due("agreed()", x.agreed(), m.agreed());
            case 8 -> due("state(" + w + ")", x.state(w), m.state(w));
            case 9 -> due("letters(" + w + ")", x.letters(w), m.letters(w));
            case 10 -> due("trueRuler()", x.trueRuler(), m.trueRuler());
            case 11 -> {
                int f = near(2);
                int n = near(101);
                due("greatest(" + f + ", " + n + ")", x.greatest(f, n), m.greatest(f, n));
            }
            case 12 -> due("free()", x.free(), m.free());
            case 13 -> due("broken()", x.broken(), m.broken());
            case 14 -> {
                int q = near(2);
                due("brokenStarts(" + q + ")", x.brokenStarts(q), m.brokenStarts(q));
            }
            case 15 -> {
                int q = near(2);
                due("canBreak(" + q + ")", x.canBreak(q), m.canBreak(q));
            }
            case 16 -> {
                int k = oneOf(3) ? -1 : near(360);
                due("brokenPlan(" + k + ")", x.brokenPlan(k), m.brokenPlan(k));
            }
            case 17 -> due("weakest()", x.weakest(), m.weakest());
            case 18 -> due("ruled(" + i + ", " + w + ")", x.ruled(i, w), m.ruled(i, w));
            case 19 -> {
                int b = near(oneOf(2) ? 64 : 4096);
                due("held(" + b + ", " + i + ")", x.held(b, i), m.held(b, i));
            }
            case 20 -> due("needed()", x.needed(), m.needed());
            case 21 -> due("asOthers(" + w + ")", x.asOthers(w), m.asOthers(w));
            case 22 -> {
                int many = oneOf(5) ? near(201) : 1 + upTo(5);
                long s = oneOf(5) ? Long.MAX_VALUE - upTo(3) : random.nextLong();
                due("byChance(" + many + ", " + s + ", " + w + ")", x.byChance(many, s, w), m.byChance(many, s, w));
            }
            case 23 -> {
                int k = oneOf(3) ? -1 : near(80);
                due("shown(" + p + ", " + k + ")", x.shown(p, k), m.shown(p, k));
            }
            case 24 -> due("status(" + v + ")", x.status(v), m.status(v));
            case 25 -> due("most(" + w + ")", x.most(w + 1), m.most(w + 1));
            default -> {
                due("count(" + w + ")", x.count(w), m.count(w));
                due("most(0)", x.most(0), m.most(0));
                due("fault(" + w + ")", x.fault(w), m.fault(w));
            }
        }
    }

    private int lineOf(int i, int what, boolean real) {
        try {
            return real ? x.line(i, what) : m.line(i, what);
        } catch (NoSuchElementException e) {
            return -77;
        }
    }
}
