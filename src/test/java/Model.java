import java.util.ArrayList;
import java.util.HashMap;
import java.util.List;
import java.util.Map;
import java.util.NoSuchElementException;

/**
 * The document told once more, as plainly and slowly as can be: every row of FREE LETTERS is tried, every state is
 * copied whole. It shares no code with RulerWord, so that the two can be held against each other.
 */
final class Model {
    static final int NONE = -1;
    static final int HIDDEN = -1000000;

    static final class Rules {
        boolean king;
        int n = 0;
        int t = -1;
        int p = -1;
        boolean skip = false;
        int[] starts = null;
        boolean[] isFalse = null;

        Rules same() {
            Rules r = new Rules();
            r.king = king;
            r.n = n;
            r.t = t;
            r.p = p;
            r.skip = skip;
            r.starts = starts.clone();
            r.isFalse = isFalse.clone();
            return r;
        }

        int rounds() {
            return king ? 3 : 2;
        }

        int foretold() {
            return king ? p * (2 * n * n - n - 1) : p * (n * n - 1);
        }
    }

    record Line(int phase, int round, int from, int to, int act) { }

    record Said(int phase, int round, int from, int to, int letter) { }

    /** Chooses what a FALSE one sends. */
    interface Liar {
        int letter(Sim s, int phase, int round, int from, int to, int asTrue);
    }

    /** One run, with all that was heard. */
    static final class Sim {
        Rules r;
        int gone = 0;
        long x;
        int[] holds;
        int[] offers;
        int[] leans;
        boolean[] firm;
        boolean[][] suspects;
        List<Said> said = new ArrayList<>();
        /** By ROUND gone: [from][to], -1 where nobody sends. */
        List<int[][]> heard = new ArrayList<>();
        List<int[]> behind = new ArrayList<>();
        List<boolean[]> firmIn = new ArrayList<>();
        List<boolean[]> tookIn = new ArrayList<>();
        List<int[]> wordsIn = new ArrayList<>();
        /** Of each PHASE, the PEERS that were FIRM and heard another word than they held then. */
        List<boolean[]> crossedIn = new ArrayList<>();

        Sim(Rules r, long seed) {
            this.r = r;
            x = seed;
            holds = r.starts.clone();
            offers = new int[r.n];
            leans = new int[r.n];
            firm = new boolean[r.n];
            suspects = new boolean[r.n][r.n];
        }

        Sim copy() {
            Sim s = new Sim(r.same(), x);
            s.gone = gone;
            s.holds = holds.clone();
            s.offers = offers.clone();
            s.leans = leans.clone();
            s.firm = firm.clone();
            for (int i = 0; i < r.n; i++) {
                s.suspects[i] = suspects[i].clone();
            }
            s.said = new ArrayList<>(said);
            s.heard = new ArrayList<>(heard);
            s.behind = new ArrayList<>(behind);
            s.firmIn = new ArrayList<>(firmIn);
            s.tookIn = new ArrayList<>(tookIn);
            s.wordsIn = new ArrayList<>(wordsIn);
            s.crossedIn = new ArrayList<>(crossedIn);
            return s;
        }

        int draw() {
            x = x * 6364136223846793005L + 1442695040888963407L;
            return (int) Long.remainderUnsigned(x >>> 33, 3);
        }

        boolean isRulers(int round) {
            return round == r.rounds() - 1;
        }

        int trueLetter(int round, int i) {
            if (round == 0) {
                return holds[i];
            }
            if (r.king) {
                return round == 1 ? offers[i] : holds[i];
            }
            return leans[i];
        }

        void step(Liar liar) {
            int phase = gone / r.rounds();
            int round = gone % r.rounds();
            int ruler = phase % r.n;
            int[][] sent = new int[r.n][r.n];
            for (int from = 0; from < r.n; from++) {
                for (int to = 0; to < r.n; to++) {
                    if (isRulers(round) && from != ruler) {
                        sent[from][to] = -1;
                    } else if (r.isFalse[from]) {
                        sent[from][to] = liar.letter(this, phase, round, from, to, trueLetter(round, from));
                    } else {
                        sent[from][to] = trueLetter(round, from);
                    }
                }
            }
            heard.add(sent);
            if (isRulers(round)) {
                rulerSpoke(sent[ruler], ruler);
            } else if (r.king && round == 0) {
                for (int i = 0; i < r.n; i++) {
                    offers[i] = 2;
                    if (count(sent, i, 1) >= r.n - r.t) {
                        offers[i] = 1;
                    }
                    if (count(sent, i, 0) >= r.n - r.t) {
                        offers[i] = 0;
                    }
                }
            } else if (r.king) {
                for (int i = 0; i < r.n; i++) {
                    int one = count(sent, i, 1) > count(sent, i, 0) ? 1 : 0;
                    if (count(sent, i, one) > r.t) {
                        holds[i] = one;
                    }
                    firm[i] = count(sent, i, one) >= r.n - r.t;
                }
            } else {
                for (int i = 0; i < r.n; i++) {
                    leans[i] = count(sent, i, 1) > count(sent, i, 0) ? 1 : 0;
                    firm[i] = 2 * count(sent, i, leans[i]) > r.n + 2 * r.t;
                }
            }
            gone++;
        }

        static int count(int[][] sent, int to, int letter) {
            int c = 0;
            for (int[] row : sent) {
                c += row[to] == letter ? 1 : 0;
            }
            return c;
        }

        void rulerSpoke(int[] word, int ruler) {
            boolean[] took = new boolean[r.n];
            boolean[] crossed = new boolean[r.n];
            for (int i = 0; i < r.n; i++) {
                if (!r.king && firm[i]) {
                    holds[i] = leans[i];
                }
                if (firm[i]) {
                    if (word[i] != holds[i] && i != ruler) {
                        suspects[i][ruler] = true;
                        crossed[i] = true;
                    }
                } else if (r.skip && suspects[i][ruler]) {
                    if (!r.king) {
                        holds[i] = leans[i];
                    }
                } else {
                    took[i] = true;
                    holds[i] = word[i] == 2 ? 0 : word[i];
                }
            }
            behind.add(holds.clone());
            firmIn.add(firm.clone());
            tookIn.add(took);
            wordsIn.add(r.king ? offers.clone() : leans.clone());
            crossedIn.add(crossed);
        }

        boolean over() {
            return gone >= r.p * r.rounds();
        }

        Sim toEnd(Liar liar) {
            while (!over()) {
                step(liar);
            }
            return this;
        }

        boolean alike(int[] words) {
            int seen = -1;
            for (int i = 0; i < r.n; i++) {
                if (!r.isFalse[i]) {
                    if (seen != -1 && seen != words[i]) {
                        return false;
                    }
                    seen = words[i];
                }
            }
            return true;
        }

        int agreedFrom() {
            for (int k = 0; k < behind.size(); k++) {
                boolean all = true;
                for (int q = k; q < behind.size(); q++) {
                    all &= alike(behind.get(q));
                }
                if (all) {
                    return k;
                }
            }
            return NONE;
        }

        int letters(int fromRound, int toRound, boolean trueOnly) {
            int c = 0;
            for (int k = fromRound; k < toRound; k++) {
                for (int from = 0; from < r.n; from++) {
                    for (int to = 0; to < r.n; to++) {
                        int l = heard.get(k)[from][to];
                        c += from != to && (l == 0 || l == 1) && !(trueOnly && r.isFalse[from]) ? 1 : 0;
                    }
                }
            }
            return c;
        }
    }

    String tape = "";
    List<Line> plan = new ArrayList<>();
    long seed;
    Sim sim = null;
    Sim image = null;
    List<Sim> acts = new ArrayList<>();
    int[] refused = new int[5];
    final Map<String, Integer> known = new HashMap<>();

    // ---- texts ----

    /** A part of a text: its place and its signs; the last one is empty. */
    record Part(int at, String s) {
        boolean digits() {
            return !s.isEmpty() && s.chars().allMatch(c -> c >= '0' && c <= '9');
        }
    }

    static List<Part> parts(String s) {
        List<Part> out = new ArrayList<>();
        int i = 0;
        while (i < s.length()) {
            char c = s.charAt(i);
            if (c == ' ') {
                i++;
                continue;
            }
            int k = i + 1;
            if (c >= 'a' && c <= 'z') {
                while (k < s.length() && s.charAt(k) >= 'a' && s.charAt(k) <= 'z') {
                    k++;
                }
            } else if (c >= '0' && c <= '9') {
                while (k < s.length() && s.charAt(k) >= '0' && s.charAt(k) <= '9') {
                    k++;
                }
            }
            out.add(new Part(i, s.substring(i, k)));
            i = k;
        }
        out.add(new Part(s.length(), ""));
        return out;
    }

    /** Thrown where a text's FAULT is. */
    static final class Fault extends RuntimeException {
        private static final long serialVersionUID = 1L;
        final int at;

        Fault(int at) {
            this.at = at;
        }
    }

    static int digit(Part p, int low, int high) {
        if (!p.digits() || p.s.length() != 1 || p.s.charAt(0) - '0' < low || p.s.charAt(0) - '0' > high) {
            throw new Fault(p.at);
        }
        return p.s.charAt(0) - '0';
    }

    static Rules readCouncil(String s) {
        List<Part> ps = parts(s);
        int k = 0;
        Rules r = new Rules();
        if (!ps.get(0).s.equals("king") && !ps.get(0).s.equals("queen")) {
            throw new Fault(ps.get(0).at);
        }
        r.king = ps.get(0).s.equals("king");
        k = 1;
        List<String> were = new ArrayList<>();
        while (ps.get(k).s.equals(";")) {
            Part w = ps.get(k + 1);
            if (!List.of("size", "bound", "phases", "starts", "false", "skip").contains(w.s) || were.contains(w.s)) {
                throw new Fault(w.at);
            }
            if ((w.s.equals("starts") || w.s.equals("false")) && r.n == 0) {
                throw new Fault(w.at);
            }
            were.add(w.s);
            k += 2;
            if (w.s.equals("skip")) {
                r.skip = true;
                continue;
            }
            Part v = ps.get(k);
            switch (w.s) {
                case "size" -> r.n = digit(v, 3, 9);
                case "bound" -> r.t = digit(v, 0, 4);
                case "phases" -> r.p = digit(v, 1, 6);
                case "starts" -> {
                    if (!v.s.matches("[01]{" + r.n + "}")) {
                        throw new Fault(v.at);
                    }
                    r.starts = v.s.chars().map(c -> c - '0').toArray();
                }
                default -> {
                    if (!v.digits() || v.s.length() >= r.n) {
                        throw new Fault(v.at);
                    }
                    r.isFalse = new boolean[r.n];
                    for (int i = 0; i < v.s.length(); i++) {
                        int d = v.s.charAt(i) - '0';
                        if (d >= r.n || i > 0 && v.s.charAt(i) <= v.s.charAt(i - 1)) {
                            throw new Fault(v.at);
                        }
                        r.isFalse[d] = true;
                    }
                }
            }
            k++;
        }
        if (!ps.get(k).s.isEmpty() || r.n == 0) {
            throw new Fault(ps.get(k).at);
        }
        if (r.t < 0) {
            r.t = r.king ? (r.n - 1) / 3 : (r.n - 1) / 4;
        }
        if (r.p < 0) {
            r.p = r.t + 1;
        }
        if (r.starts == null) {
            r.starts = new int[r.n];
        }
        if (r.isFalse == null) {
            r.isFalse = new boolean[r.n];
        }
        return r;
    }

    static List<Line> readPlan(String s) {
        List<Part> ps = parts(s);
        List<Line> lines = new ArrayList<>();
        String[] words = {"phase", "round", "from", "to"};
        int[] high = {5, 2, 8, 8};
        int k = 0;
        while (true) {
            if (lines.size() == 20) {
                throw new Fault(ps.get(k).at);
            }
            int[] v = {-1, -1, -1, -1};
            for (int w = 0; w < 4; w++) {
                if (ps.get(k).s.equals(words[w])) {
                    v[w] = digit(ps.get(k + 1), 0, high[w]);
                    k += 2;
                }
            }
            int act = List.of("0", "1", "2", "same", "turn", "split", "draw").indexOf(ps.get(k).s);
            if (act < 0) {
                throw new Fault(ps.get(k).at);
            }
            lines.add(new Line(v[0], v[1], v[2], v[3], act));
            k++;
            if (ps.get(k).s.isEmpty()) {
                return lines;
            }
            if (!ps.get(k).s.equals(";")) {
                throw new Fault(ps.get(k).at);
            }
            k++;
        }
    }

    int feed(int a, int b, int c, int d, int e) {
        if (tape.length() > 500) {
            return NONE;
        }
        StringBuilder sb = new StringBuilder(tape);
        for (int w : new int[] {a, b, c, d, e}) {
            for (int k = 3; k >= 0; k--) {
                char ch = (char) (w >>> 8 * k & 255);
                if (ch != 0) {
                    sb.append(ch);
                }
            }
        }
        tape = sb.toString();
        return tape.length();
    }

    boolean end(int n) {
        if (n < 0 || n > tape.length()) {
            return false;
        }
        tape = tape.substring(0, n);
        return true;
    }

    int fault(int what) {
        try {
            if (what == 0) {
                readCouncil(tape);
            } else if (what == 1) {
                readPlan(tape);
            } else {
                return -2;
            }
            return NONE;
        } catch (Fault f) {
            return f.at;
        }
    }

    int council(long s) {
        if (fault(0) != NONE) {
            return NONE;
        }
        sim = new Sim(readCouncil(tape), s);
        seed = s;
        tape = "";
        acts.clear();
        image = null;
        return sim.r.n;
    }

    int plan() {
        if (fault(1) != NONE) {
            return NONE;
        }
        plan = readPlan(tape);
        tape = "";
        return plan.size();
    }

    // ---- looking ----

    static int bits(int[] a) {
        int b = 0;
        for (int i = 0; i < a.length; i++) {
            b |= a[i] << i;
        }
        return b;
    }

    static int bits(boolean[] a) {
        int b = 0;
        for (int i = 0; i < a.length; i++) {
            b |= a[i] ? 1 << i : 0;
        }
        return b;
    }

    static boolean[] set(int n, int bits) {
        boolean[] a = new boolean[n];
        for (int i = 0; i < n; i++) {
            a[i] = (bits >> i & 1) == 1;
        }
        return a;
    }

    static int[] digits(int n, int bits) {
        int[] a = new int[n];
        for (int i = 0; i < n; i++) {
            a[i] = bits >> i & 1;
        }
        return a;
    }

    int rule(int what) {
        if (what == 10) {
            return plan.size();
        }
        if (sim == null || what < 0 || what > 11) {
            return HIDDEN;
        }
        Rules r = sim.r;
        int[] all = {r.king ? 0 : 1, r.n, r.t, r.p, bits(r.starts), bits(r.isFalse), r.skip ? 1 : 0,
            sim.gone / r.rounds(), sim.gone % r.rounds(), r.rounds(), 0, sim.said.size()};
        return all[what];
    }

    int line(int i, int what) {
        if (i < 0 || i >= plan.size() || what < 0 || what > 4) {
            throw new NoSuchElementException();
        }
        Line l = plan.get(i);
        return new int[] {l.phase, l.round, l.from, l.to, l.act}[what];
    }

    int byPlan(Sim s, int phase, int round, int from, int to, int asTrue) {
        for (Line l : plan) {
            if ((l.phase == NONE || l.phase == phase) && (l.round == NONE || l.round == round)
                && (l.from == NONE || l.from == from) && (l.to == NONE || l.to == to)) {
                return switch (l.act) {
                    case 0, 1, 2 -> l.act;
                    case 3 -> asTrue;
                    case 4 -> asTrue == 2 ? 2 : 1 - asTrue;
                    case 5 -> to % 2;
                    default -> s.draw();
                };
            }
        }
        return asTrue;
    }

    int byHand(Sim s, int phase, int round, int from, int to, int asTrue) {
        for (int i = s.said.size() - 1; i >= 0; i--) {
            Said d = s.said.get(i);
            if (d.phase == phase && d.round == round && d.from == from && d.to == to) {
                return d.letter;
            }
        }
        return byPlan(s, phase, round, from, to, asTrue);
    }

    void act() {
        acts.add(sim.copy());
        if (acts.size() > 20) {
            acts.remove(0);
        }
    }

    int round() {
        if (sim == null || sim.over()) {
            return NONE;
        }
        act();
        sim.step(this::byHand);
        return sim.gone;
    }

    int run() {
        if (sim == null || sim.over()) {
            return NONE;
        }
        int c = 0;
        while (!sim.over()) {
            round();
            c++;
        }
        return c;
    }

    int refuse(int why) {
        refused[why]++;
        return NONE;
    }

    boolean isPeer(int i) {
        return sim != null && i >= 0 && i < sim.r.n;
    }

    int say(int phase, int round, int from, int to, int letter) {
        if (sim == null) {
            return refuse(0);
        }
        if (phase < 0 || phase >= sim.r.p || round < 0 || round >= sim.r.rounds() || !isPeer(from) || !isPeer(to)
            || letter < 0 || letter > 2) {
            return refuse(1);
        }
        if (!sim.r.isFalse[from]) {
            return refuse(2);
        }
        if (phase * sim.r.rounds() + round < sim.gone) {
            return refuse(3);
        }
        if (sim.said.size() >= 30) {
            return refuse(4);
        }
        act();
        sim.said.add(new Said(phase, round, from, to, letter));
        return sim.said.size();
    }

    int starts(int b) {
        if (sim == null) {
            return refuse(0);
        }
        if (b < 0 || b >= 1 << sim.r.n) {
            return refuse(1);
        }
        if (sim.gone > 0) {
            return refuse(3);
        }
        int was = bits(sim.r.starts);
        act();
        sim.r = sim.r.same();
        sim.r.starts = digits(sim.r.n, b);
        sim.holds = sim.r.starts.clone();
        return was;
    }

    int falseOnes(int b) {
        if (sim == null) {
            return refuse(0);
        }
        if (b < 0 || b >= (1 << sim.r.n) - 1) {
            return refuse(1);
        }
        if (sim.gone > 0) {
            return refuse(3);
        }
        int was = bits(sim.r.isFalse);
        act();
        sim.r = sim.r.same();
        sim.r.isFalse = set(sim.r.n, b);
        sim.said.removeIf(d -> !sim.r.isFalse[d.from]);
        return was;
    }

    int heard(int phase, int round, int from, int to) {
        if (!isPeer(from) || !isPeer(to) || phase < 0 || phase >= sim.r.p || round < 0 || round >= sim.r.rounds()) {
            return NONE;
        }
        int k = phase * sim.r.rounds() + round;
        return k >= sim.gone ? NONE : sim.heard.get(k)[from][to];
    }

    int peer(int i, int what) {
        if (!isPeer(i) || what < 0 || what > 3) {
            return NONE;
        }
        return new int[] {sim.holds[i], bits(sim.suspects[i]), sim.r.isFalse[i] ? 1 : 0, sim.r.starts[i]}[what];
    }

    int told(int i, int phase, int what) {
        if (!isPeer(i) || phase < 0 || phase >= sim.behind.size() || what < 0 || what > 7) {
            return NONE;
        }
        int k = phase * sim.r.rounds();
        return switch (what) {
            case 0 -> sim.behind.get(phase)[i];
            case 1 -> sim.firmIn.get(phase)[i] ? 1 : 0;
            case 2, 3 -> Sim.count(sim.heard.get(k), i, what - 2);
            case 4 -> sim.wordsIn.get(phase)[i];
            case 5, 6 -> sim.r.king ? Sim.count(sim.heard.get(k + 1), i, what - 5) : NONE;
            default -> sim.tookIn.get(phase)[i] ? 1 : 0;
        };
    }

    int agreed() {
        return sim == null ? NONE : sim.agreedFrom();
    }

    int state(int what) {
        if (sim == null || what < 0 || what > 3) {
            return NONE;
        }
        int[] w = sim.behind.isEmpty() ? sim.r.starts : sim.behind.get(sim.behind.size() - 1);
        int ones = 0;
        boolean isStart = false;
        for (int i = 0; i < sim.r.n; i++) {
            if (!sim.r.isFalse[i]) {
                ones += w[i];
                for (int k = 0; k < sim.r.n; k++) {
                    isStart |= !sim.r.isFalse[k] && sim.r.starts[k] == w[i];
                }
            }
        }
        boolean alike = sim.alike(w);
        return new int[] {alike ? 1 : 0, ones, alike && isStart ? 1 : 0, sim.alike(sim.r.starts) ? 1 : 0}[what];
    }

    int letters(int what) {
        if (sim == null || what < 0 || what > 3) {
            return NONE;
        }
        int over = sim.behind.size();
        return switch (what) {
            case 0 -> sim.letters(0, sim.gone, false);
            case 1 -> sim.letters(0, sim.gone, true);
            case 2 -> sim.r.foretold();
            default -> over == 0 ? 0 : sim.letters((over - 1) * sim.r.rounds(), over * sim.r.rounds(), false);
        };
    }

    int trueRuler() {
        for (int k = 0; sim != null && k < sim.r.p; k++) {
            if (!sim.r.isFalse[k % sim.r.n]) {
                return k;
            }
        }
        return NONE;
    }

    int greatest(int form, int n) {
        if (form < 0 || form > 1 || n < 1 || n > 100) {
            return NONE;
        }
        int t = 0;
        while ((form == 0 ? 3 : 4) * (t + 1) < n) {
            t++;
        }
        return t;
    }

    // ---- BROKEN ----

    /** The FREE LETTERS: phase, round, from, to, in the order of sending. */
    static List<int[]> freeOnes(Rules r) {
        List<int[]> out = new ArrayList<>();
        for (int k = 0; k < r.p; k++) {
            for (int q = 0; q < r.rounds(); q++) {
                for (int i = 0; i < r.n; i++) {
                    for (int j = 0; j < r.n; j++) {
                        boolean sends = q < r.rounds() - 1 || k % r.n == i;
                        if (sends && r.isFalse[i] && !r.isFalse[j]) {
                            out.add(new int[] {k, q, i, j});
                        }
                    }
                }
            }
        }
        return out;
    }

    static Sim runFree(Rules r, int bits) {
        int[] used = {0};
        return new Sim(r, 0).toEnd((s, phase, round, from, to, asTrue) ->
            r.isFalse[to] ? asTrue : bits >> used[0]++ & 1);
    }

    /** The least BROKEN number, NONE, or -2. */
    int least(Rules r) {
        int free = freeOnes(r).size();
        if (free > 12) {
            return -2;
        }
        String key = r.king + " " + r.n + " " + r.t + " " + r.p + " " + r.skip + " " + bits(r.starts) + " "
            + bits(r.isFalse);
        Integer old = known.get(key);
        if (old != null) {
            return old;
        }
        int found = NONE;
        for (int b = 0; b < 1 << free && found == NONE; b++) {
            Sim s = runFree(r, b);
            if (!s.alike(s.holds)) {
                found = b;
            }
        }
        known.put(key, found);
        return found;
    }

    int free() {
        return sim == null ? NONE : freeOnes(sim.r).size();
    }

    int broken() {
        return sim == null ? -2 : least(sim.r);
    }

    List<Integer> brokenStartsOf(Rules r) {
        List<Integer> out = new ArrayList<>();
        for (int b = 0; b < 1 << r.n; b++) {
            Rules q = r.same();
            q.starts = digits(r.n, b);
            if (least(q) >= 0) {
                out.add(b);
            }
        }
        return out;
    }

    int brokenStarts(int what) {
        if (sim == null || what < 0 || what > 1 || freeOnes(sim.r).size() > 12) {
            return -2;
        }
        List<Integer> all = brokenStartsOf(sim.r);
        return what == 0 ? all.size() : all.isEmpty() ? NONE : all.get(0);
    }

    int canBreak(int what) {
        if (sim == null || what < 0 || what > 1 || sim.r.n > 5) {
            return -2;
        }
        List<Integer> all = new ArrayList<>();
        for (int b = 0; b < 1 << sim.r.n; b++) {
            if (Integer.bitCount(b) == Integer.bitCount(bits(sim.r.isFalse))) {
                Rules q = sim.r.same();
                q.isFalse = set(q.n, b);
                if (freeOnes(q).size() > 12) {
                    return -2;
                }
                if (!brokenStartsOf(q).isEmpty()) {
                    all.add(b);
                }
            }
        }
        return what == 0 ? all.size() : all.isEmpty() ? NONE : all.get(0);
    }

    static int byteOf(String s, int k) {
        return k == NONE ? s.length() : k < 0 || k >= s.length() ? NONE : s.charAt(k);
    }

    int brokenPlan(int k) {
        int b = broken();
        if (b < 0) {
            return b;
        }
        List<String> lines = new ArrayList<>();
        for (int[] f : freeOnes(sim.r)) {
            lines.add("phase " + f[0] + " round " + f[1] + " from " + f[2] + " to " + f[3] + " "
                + (b >> lines.size() & 1));
        }
        return byteOf(String.join(";", lines), k);
    }

    int weakest() {
        if (sim == null) {
            return -2;
        }
        int found = NONE;
        for (int i = 0; i < sim.r.n; i++) {
            Rules q = sim.r.same();
            if (q.isFalse[i] || Integer.bitCount(bits(q.isFalse)) == q.n - 1) {
                continue;
            }
            q.isFalse[i] = true;
            int b = least(q);
            if (b == -2) {
                return -2;
            }
            if (b >= 0 && found == NONE) {
                found = i;
            }
        }
        return found;
    }

    int ruled(int i, int what) {
        if (!isPeer(i) || what < 0 || what > 3) {
            return NONE;
        }
        int sum = 0;
        for (int k = 0; k < sim.behind.size(); k++) {
            if (k % sim.r.n != i) {
                continue;
            }
            int[] sent = sim.heard.get(k * sim.r.rounds() + sim.r.rounds() - 1)[i];
            for (int j = 0; j < sim.r.n; j++) {
                sum += what == 0 && j == 0 ? 1 : 0;
                sum += what == 1 && !sim.r.isFalse[j] && sim.tookIn.get(k)[j] ? 1 : 0;
                sum += what == 2 && sim.crossedIn.get(k)[j] ? 1 : 0;
                sum += what == 3 && j != i && sent[j] != 2 ? 1 : 0;
            }
        }
        return sum;
    }

    int held(int b, int i) {
        if (sim == null || freeOnes(sim.r).size() > 12) {
            return -2;
        }
        if (!isPeer(i) || b < 0 || b >= 1 << freeOnes(sim.r).size()) {
            return NONE;
        }
        return runFree(sim.r, b).holds[i];
    }

    int needed() {
        for (int p = 1; sim != null && p <= 6; p++) {
            Rules q = sim.r.same();
            q.p = p;
            int b = least(q);
            if (b == -2) {
                return NONE;
            }
            if (b == NONE) {
                return p;
            }
        }
        return NONE;
    }

    int asOthers(int what) {
        if (sim == null || what < 0 || what > 3) {
            return -2;
        }
        Rules q = sim.r.same();
        q.king = !q.king;
        Sim s = new Sim(q, seed).toEnd(this::byPlan);
        return new int[] {s.agreedFrom(), s.letters(0, s.gone, false), bits(s.holds), q.foretold()}[what];
    }

    int byChance(int w, long s, int what) {
        if (sim == null || w < 1 || w > 200 || what < 0 || what > 3) {
            return -2;
        }
        int[] out = {0, 0, NONE, 0};
        for (int k = 0; k < w; k++) {
            Sim m = new Sim(sim.r, s + k).toEnd((x, phase, round, from, to, asTrue) -> x.draw());
            out[1] += m.letters(0, m.gone, false);
            if (m.alike(m.holds)) {
                out[0]++;
                for (int i = 0; i < m.r.n; i++) {
                    if (!m.r.isFalse[i]) {
                        out[3] += m.holds[i];
                        break;
                    }
                }
            } else if (out[2] == NONE) {
                out[2] = k;
            }
        }
        return out[what];
    }

    int shown(int phase, int k) {
        if (sim == null || phase < 0 || phase >= sim.behind.size()) {
            return NONE;
        }
        int ruler = phase % sim.r.n;
        String s = "phase " + phase + " ruler " + ruler;
        for (int i = 0; i < sim.r.n; i++) {
            s += ", " + (sim.r.isFalse[i] ? "x" : "") + i + "=" + sim.behind.get(phase)[i]
                + (sim.firmIn.get(phase)[i] ? "!" : "") + (sim.tookIn.get(phase)[i] ? "<" : "")
                + (sim.suspects[i][ruler] ? "?" : "");
        }
        return byteOf(s, k);
    }

    int undo() {
        if (acts.isEmpty()) {
            return NONE;
        }
        sim = acts.remove(acts.size() - 1);
        return acts.size();
    }

    int image() {
        if (sim == null) {
            return NONE;
        }
        image = sim.copy();
        return sim.gone;
    }

    int back() {
        if (image == null) {
            return NONE;
        }
        sim = image.copy();
        acts.clear();
        return sim.gone;
    }

    int status(int what) {
        return what < 0 || what > 4 ? NONE : refused[what];
    }

    int most(int what) {
        if (sim == null || what < 0 || what > 4) {
            return NONE;
        }
        int n = sim.r.n;
        int best = what == 4 ? -1 : 0;
        int who = NONE;
        int sum = 0;
        if (what < 2) {
            for (int i = 0; i < n; i++) {
                int c = 0;
                for (int j = 0; j < n; j++) {
                    c += (what == 0 ? sim.suspects[i][j] : sim.suspects[j][i]) ? 1 : 0;
                }
                if (c > best) {
                    best = c;
                    who = i;
                }
            }
            return who;
        }
        for (int k = 0; k < sim.behind.size(); k++) {
            boolean unsure = false;
            int changes = 0;
            int took = 0;
            int[] ahead = k == 0 ? sim.r.starts : sim.behind.get(k - 1);
            for (int i = 0; i < n; i++) {
                if (!sim.r.isFalse[i]) {
                    unsure |= !sim.firmIn.get(k)[i];
                    changes += ahead[i] != sim.behind.get(k)[i] ? 1 : 0;
                    took += sim.tookIn.get(k)[i] ? 1 : 0;
                }
            }
            sum += what == 2 ? (unsure ? 1 : 0) : changes;
            if (took > best) {
                best = took;
                who = k;
            }
        }
        return what == 4 ? who : sum;
    }

    int count(int what) {
        return switch (what) {
            case 0 -> tape.length();
            case 1 -> acts.size();
            case 2 -> sim == null ? 0 : sim.gone;
            default -> NONE;
        };
    }
}
