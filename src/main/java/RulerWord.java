import java.util.NoSuchElementException;

/** Agreement in constant letters: a COUNCIL of PEERS, some of them FALSE, under kings or queens. */
public final class RulerWord {
    public static final int NONE = -1;
    public static final int HIDDEN = -1000000;

    private static final int NOT_ASKED = -2;
    private static final int KINGS = 0;
    private static final int QUEENS = 1;
    private static final int NOTHING = 2;
    private static final int MOST_PEERS = 9;
    private static final int MOST_PHASES = 6;
    private static final int MOST_FREE = 12;
    private static final int MOST_SAID = 30;
    private static final int MOST_CHANCES = 200;
    private static final int MOST_ASKED_SIZE = 5;
    private static final int EVERYBODY = 511;

    private final Tape tape = new Tape();
    private final Council draft = new Council();
    private final Council council = new Council();
    private final Council others = new Council();
    private final Plan draftPlan = new Plan();
    private final Planned planned = new Planned();
    private final Chance chance = new Chance();
    private final Free freely = new Free();
    private final Course now = new Course();
    private final Course kept = new Course();
    private final Course trial = new Course();
    private final Acts acts = new Acts();
    private final Search search = new Search();
    private final Tape text = new Tape();
    private final int[] refused = new int[5];
    private boolean convened;
    private boolean imaged;
    private long seed;

    public RulerWord() {
    }

    // ---- the TAPE and the texts on it ----

    public int feed(int a, int b, int c, int d, int e) {
        if (tape.length > Tape.FULL) {
            return NONE;
        }
        tape.put(a);
        tape.put(b);
        tape.put(c);
        tape.put(d);
        tape.put(e);
        return tape.length;
    }

    public boolean end(int n) {
        if (n < 0 || n > tape.length) {
            return false;
        }
        tape.length = n;
        return true;
    }

    public int fault(int what) {
        switch (what) {
            case 0:
                return draft.readFrom(tape);
            case 1:
                return draftPlan.readFrom(tape);
            default:
                return NOT_ASKED;
        }
    }

    public int council(long seed) {
        if (draft.readFrom(tape) != NONE) {
            return NONE;
        }
        tape.length = 0;
        council.copy(draft);
        convened = true;
        imaged = false;
        this.seed = seed;
        acts.depth = 0;
        now.begin(council.starts, council.falses, seed);
        return council.size;
    }

    public int plan() {
        if (draftPlan.readFrom(tape) != NONE) {
            return NONE;
        }
        tape.length = 0;
        planned.plan.copy(draftPlan);
        return planned.plan.lines;
    }

    public int rule(int what) {
        if (what == 10) {
            return planned.plan.lines;
        }
        if (!convened) {
            return HIDDEN;
        }
        switch (what) {
            case 0:
                return council.form;
            case 1:
                return council.size;
            case 2:
                return council.bound;
            case 3:
                return council.phases;
            case 4:
                return now.starts;
            case 5:
                return now.falses;
            case 6:
                return council.skip ? 1 : 0;
            case 7:
                return council.phaseAt(now.gone);
            case 8:
                return council.turnAt(now.gone);
            case 9:
                return council.rounds();
            case 11:
                return now.saidCount;
            default:
                return HIDDEN;
        }
    }

    public int line(int i, int what) throws NoSuchElementException {
        if (i < 0 || i >= planned.plan.lines || what < 0 || what >= Plan.PARTS) {
            throw new NoSuchElementException();
        }
        return planned.plan.part(i, what);
    }

    // ---- ROUNDS and what is told by hand ----

    public int round() {
        if (roundsLeft() < 1) {
            return NONE;
        }
        acts.keep(now);
        now.play(council, planned);
        return now.gone;
    }

    public int run() {
        int left = roundsLeft();
        if (left < 1) {
            return NONE;
        }
        for (int i = 0; i < left; i++) {
            acts.keep(now);
            now.play(council, planned);
        }
        return left;
    }

    public int say(int phase, int round, int from, int to, int letter) {
        int why = whyNotSaid(phase, round, from, to, letter);
        if (why != NONE) {
            return refuse(why);
        }
        acts.keep(now);
        now.addSaid(phase, round, from, to, letter);
        return now.saidCount;
    }

    public int starts(int bits) {
        int why = whyNotTold(bits, council.everybody());
        if (why != NONE) {
            return refuse(why);
        }
        int before = now.starts;
        acts.keep(now);
        now.starts = bits;
        now.holds = bits;
        return before;
    }

    public int falseOnes(int bits) {
        int why = whyNotTold(bits, council.everybody() - 1);
        if (why != NONE) {
            return refuse(why);
        }
        int before = now.falses;
        acts.keep(now);
        now.falses = bits;
        now.dropSaidByTrue();
        return before;
    }

    // ---- what was heard, counted, held ----

    public int heard(int phase, int round, int from, int to) {
        if (!isPeer(from) || !isPeer(to) || !isRound(phase, round)) {
            return NONE;
        }
        boolean silent = round == council.rounds() - 1 && from != council.ruler(phase);
        return silent || !isGone(phase, round) ? NONE : now.letter(phase, round, from, to);
    }

    public int peer(int i, int what) {
        if (!isPeer(i)) {
            return NONE;
        }
        switch (what) {
            case 0:
                return bit(now.holds, i);
            case 1:
                return now.suspectedBy(i);
            case 2:
                return bit(now.falses, i);
            case 3:
                return bit(now.starts, i);
            default:
                return NONE;
        }
    }

    public int told(int i, int phase, int what) {
        if (!isPeer(i) || !isOver(phase)) {
            return NONE;
        }
        boolean queens = council.form == QUEENS;
        switch (what) {
            case 0:
                return bit(now.behind[phase], i);
            case 1:
                return bit(now.firm[phase], i);
            case 2:
                return now.zerosHeard(council, phase, 0, i);
            case 3:
                return now.onesHeard(phase, 0, i);
            case 4:
                return nibble(now.words[phase], i);
            case 5:
                return queens ? NONE : now.zerosHeard(council, phase, 1, i);
            case 6:
                return queens ? NONE : now.onesHeard(phase, 1, i);
            case 7:
                return bit(now.took[phase], i);
            default:
                return NONE;
        }
    }

    // ---- AGREED, LETTERS, bounds ----

    public int agreed() {
        return now.agreedFrom(council);
    }

    public int state(int what) {
        if (!convened) {
            return NONE;
        }
        int over = phasesOver();
        int words = over > 0 ? now.behind[over - 1] : now.starts;
        switch (what) {
            case 0:
                return now.alike(council, words) ? 1 : 0;
            case 1:
                return Integer.bitCount(words & now.trues(council));
            case 2:
                return now.alike(council, words) && isSomeStart(words) ? 1 : 0;
            case 3:
                return now.alike(council, now.starts) ? 1 : 0;
            default:
                return NONE;
        }
    }

    public int letters(int what) {
        if (!convened) {
            return NONE;
        }
        int over = phasesOver();
        switch (what) {
            case 0:
                return now.sent;
            case 1:
                return now.sentByTrue;
            case 2:
                return council.foretold();
            case 3:
                return over > 0 ? now.sentIn[over - 1] : 0;
            default:
                return NONE;
        }
    }

    public int trueRuler() {
        for (int phase = 0; convened && phase < council.phases; phase++) {
            if (bit(now.falses, council.ruler(phase)) == 0) {
                return phase;
            }
        }
        return NONE;
    }

    public int greatest(int form, int n) {
        if (form < KINGS || form > QUEENS || n < 1 || n > 100) {
            return NONE;
        }
        return greatestBound(form, n);
    }

    // ---- rows of LETTERS that break a COUNCIL ----

    public int free() {
        return convened ? freeWith(now.falses) : NONE;
    }

    public int broken() {
        if (!isAsked(now.falses)) {
            return NOT_ASKED;
        }
        search.prepare(council, now.falses, council.phases);
        return search.least(now.starts);
    }

    public int brokenStarts(int what) {
        if (what < 0 || what > 1 || !isAsked(now.falses)) {
            return NOT_ASKED;
        }
        return what == 0 ? countBrokenStarts(now.falses) : leastBrokenStart(now.falses);
    }

    public int canBreak(int what) {
        if (what < 0 || what > 1 || !convened || council.size > MOST_ASKED_SIZE) {
            return NOT_ASKED;
        }
        int many = 0;
        int least = NONE;
        for (int set = 0; set < council.everybody(); set++) {
            if (Integer.bitCount(set) != Integer.bitCount(now.falses)) {
                continue;
            }
            if (!isAsked(set)) {
                return NOT_ASKED;
            }
            if (leastBrokenStart(set) != NONE) {
                many++;
                least = least == NONE ? set : least;
            }
        }
        return what == 0 ? many : least;
    }

    public int brokenPlan(int k) {
        int number = broken();
        if (number < 0) {
            return number;
        }
        text.length = 0;
        for (int phase = 0; phase < council.phases; phase++) {
            for (int turn = 0; turn < council.rounds(); turn++) {
                writeBrokenRound(phase, turn, number);
            }
        }
        return byteOfText(k);
    }

    public int weakest() {
        if (!convened) {
            return NOT_ASKED;
        }
        int weakest = NONE;
        for (int i = council.size - 1; i >= 0; i--) {
            int falses = now.falses | 1 << i;
            if (falses == now.falses || falses == council.everybody()) {
                continue;
            }
            if (!isAsked(falses)) {
                return NOT_ASKED;
            }
            search.prepare(council, falses, council.phases);
            weakest = search.isBroken(now.starts) ? i : weakest;
        }
        return weakest;
    }

    public int ruled(int i, int what) {
        if (!isPeer(i) || what < 0 || what > 3) {
            return NONE;
        }
        int sum = 0;
        for (int phase = 0; phase < phasesOver(); phase++) {
            if (council.ruler(phase) == i) {
                sum += ruledIn(phase, i, what);
            }
        }
        return sum;
    }

    public int held(int bits, int i) {
        if (!isAsked(now.falses)) {
            return NOT_ASKED;
        }
        if (!isPeer(i) || bits < 0 || bits >= 1 << freeWith(now.falses)) {
            return NONE;
        }
        freely.bits = bits;
        freely.used = 0;
        playTrial(council, freely, seed);
        return bit(trial.holds, i);
    }

    public int needed() {
        for (int phases = 1; convened && phases <= MOST_PHASES; phases++) {
            if (council.freeLetters(now.falses, phases) > MOST_FREE) {
                return NONE;
            }
            search.prepare(council, now.falses, phases);
            if (!search.isBroken(now.starts)) {
                return phases;
            }
        }
        return NONE;
    }

    // ---- other whole runs from the STARTS ----

    public int asOthers(int what) {
        if (!convened || what < 0 || what > 3) {
            return NOT_ASKED;
        }
        others.copy(council);
        others.form = council.form == KINGS ? QUEENS : KINGS;
        if (what == 3) {
            return others.foretold();
        }
        playTrial(others, planned, seed);
        switch (what) {
            case 0:
                return trial.agreedFrom(others);
            case 1:
                return trial.sent;
            default:
                return trial.holds;
        }
    }

    public int byChance(int w, long s, int what) {
        if (!convened || w < 1 || w > MOST_CHANCES || what < 0 || what > 3) {
            return NOT_ASKED;
        }
        int alike = 0;
        int letters = 0;
        int first = NONE;
        int ones = 0;
        for (int place = 0; place < w; place++) {
            playTrial(council, chance, s + place);
            letters += trial.sent;
            if (trial.alike(council, trial.holds)) {
                alike++;
                ones += (trial.holds & trial.trues(council)) != 0 ? 1 : 0;
            } else if (first == NONE) {
                first = place;
            }
        }
        switch (what) {
            case 0:
                return alike;
            case 1:
                return letters;
            case 2:
                return first;
            default:
                return ones;
        }
    }

    // ---- what can be looked at, ACTS, the IMAGE ----

    public int shown(int phase, int k) {
        if (!isOver(phase)) {
            return NONE;
        }
        int ruler = council.ruler(phase);
        text.length = 0;
        text.writeNumber("phase ", phase);
        text.writeNumber(" ruler ", ruler);
        for (int i = 0; i < council.size; i++) {
            text.writeNumber(bit(now.falses, i) == 1 ? ", x" : ", ", i);
            text.writeNumber("=", bit(now.behind[phase], i));
            text.write(bit(now.firm[phase], i) == 1 ? "!" : "");
            text.write(bit(now.took[phase], i) == 1 ? "<" : "");
            text.write(bit(now.suspectedBy(i), ruler) == 1 ? "?" : "");
        }
        return byteOfText(k);
    }

    public int undo() {
        return acts.takeBack(now) ? acts.depth : NONE;
    }

    public int image() {
        if (!convened) {
            return NONE;
        }
        kept.copy(now);
        imaged = true;
        return now.gone;
    }

    public int back() {
        if (!imaged) {
            return NONE;
        }
        now.copy(kept);
        acts.depth = 0;
        return now.gone;
    }

    public int status(int what) {
        return what < 0 || what >= refused.length ? NONE : refused[what];
    }

    public int most(int what) {
        if (!convened) {
            return NONE;
        }
        switch (what) {
            case 0:
                return mostWary();
            case 1:
                return mostSuspected();
            case 2:
                return phasesInDoubt();
            case 3:
                return changesOfTrueOnes();
            case 4:
                return mostObedientPhase();
            default:
                return NONE;
        }
    }

    public int count(int what) {
        switch (what) {
            case 0:
                return tape.length;
            case 1:
                return acts.depth;
            case 2:
                return now.gone;
            default:
                return NONE;
        }
    }

    // ---- helpers of the face ----

    private static int bit(int bits, int i) {
        return bits >>> i & 1;
    }

    private static int nibble(long row, int i) {
        return (int) (row >>> 4 * i) & 15;
    }

    private static int greatestBound(int form, int n) {
        return form == KINGS ? (n - 1) / 3 : (n - 1) / 4;
    }

    private boolean isPeer(int i) {
        return convened && i >= 0 && i < council.size;
    }

    private boolean isRound(int phase, int turn) {
        return convened && phase >= 0 && phase < council.phases && turn >= 0 && turn < council.rounds();
    }

    private boolean isGone(int phase, int turn) {
        return phase * council.rounds() + turn < now.gone;
    }

    private int phasesOver() {
        return convened ? Math.min(council.phaseAt(now.gone), MOST_PHASES) : 0;
    }

    private boolean isOver(int phase) {
        return phase >= 0 && phase < phasesOver();
    }

    private int roundsLeft() {
        return convened ? council.allRounds() - now.gone : 0;
    }

    private void playTrial(Council rules, Voice speaker, long from) {
        trial.begin(now.starts, now.falses, from);
        for (int i = 0; i < rules.allRounds(); i++) {
            trial.play(rules, speaker);
        }
    }

    private int refuse(int why) {
        refused[why]++;
        return NONE;
    }

    private int whyNotSaid(int phase, int turn, int from, int to, int letter) {
        if (!convened) {
            return 0;
        }
        if (!isRound(phase, turn) || !isPeer(from) || !isPeer(to) || letter < 0 || letter > NOTHING) {
            return 1;
        }
        if (bit(now.falses, from) == 0) {
            return 2;
        }
        if (isGone(phase, turn)) {
            return 3;
        }
        return now.saidCount >= MOST_SAID ? 4 : NONE;
    }

    private int whyNotTold(int bits, int greatest) {
        if (!convened) {
            return 0;
        }
        if (bits < 0 || bits > greatest) {
            return 1;
        }
        return now.gone > 0 ? 3 : NONE;
    }

    private boolean isSomeStart(int words) {
        int trues = now.trues(council);
        return (words & trues) != 0 ? (now.starts & trues) != 0 : (now.starts & trues) != trues;
    }

    private int freeWith(int falses) {
        return council.freeLetters(falses, council.phases);
    }

    private boolean isAsked(int falses) {
        return convened && freeWith(falses) <= MOST_FREE;
    }

    private int countBrokenStarts(int falses) {
        int many = 0;
        search.prepare(council, falses, council.phases);
        for (int starts = 0; starts <= council.everybody(); starts++) {
            many += search.isBroken(starts) ? 1 : 0;
        }
        return many;
    }

    private int leastBrokenStart(int falses) {
        search.prepare(council, falses, council.phases);
        for (int starts = 0; starts <= council.everybody(); starts++) {
            if (search.isBroken(starts)) {
                return starts;
            }
        }
        return NONE;
    }

    private void writeBrokenRound(int phase, int turn, int number) {
        int place = freeBefore(phase, turn);
        for (int from = 0; from < council.size; from++) {
            boolean silent = turn == council.rounds() - 1 && from != council.ruler(phase);
            if (silent || bit(now.falses, from) == 0) {
                continue;
            }
            for (int to = 0; to < council.size; to++) {
                if (bit(now.falses, to) == 0) {
                    text.writeNumber(place == 0 ? "phase " : ";phase ", phase);
                    text.writeNumber(" round ", turn);
                    text.writeNumber(" from ", from);
                    text.writeNumber(" to ", to);
                    text.writeNumber(" ", bit(number, place));
                    place++;
                }
            }
        }
    }

    private int freeBefore(int phase, int turn) {
        int liars = Integer.bitCount(now.falses);
        return council.freeLetters(now.falses, phase) + turn * liars * (council.size - liars);
    }

    private int byteOfText(int k) {
        if (k == NONE) {
            return text.length;
        }
        return k < 0 || k >= text.length ? NONE : text.bytes[k];
    }

    private int ruledIn(int phase, int ruler, int what) {
        switch (what) {
            case 0:
                return 1;
            case 1:
                return Integer.bitCount(now.took[phase] & now.trues(council));
            case 2:
                return now.crossedIn(council, phase);
            default:
                return reachedByRuler(phase, ruler);
        }
    }

    private int reachedByRuler(int phase, int ruler) {
        int reached = 0;
        for (int to = 0; to < council.size; to++) {
            boolean counts = to != ruler && now.letter(phase, council.rounds() - 1, ruler, to) != NOTHING;
            reached += counts ? 1 : 0;
        }
        return reached;
    }

    private int mostWary() {
        int who = NONE;
        int most = 0;
        for (int i = 0; i < council.size; i++) {
            int many = Integer.bitCount(now.suspectedBy(i));
            if (many > most) {
                most = many;
                who = i;
            }
        }
        return who;
    }

    private int mostSuspected() {
        int who = NONE;
        int most = 0;
        for (int ruler = 0; ruler < MOST_PHASES; ruler++) {
            int many = Integer.bitCount(now.waryOf(ruler));
            if (many > most) {
                most = many;
                who = ruler;
            }
        }
        return who;
    }

    private int phasesInDoubt() {
        int many = 0;
        for (int phase = 0; phase < phasesOver(); phase++) {
            many += (now.trues(council) & ~now.firm[phase]) != 0 ? 1 : 0;
        }
        return many;
    }

    private int changesOfTrueOnes() {
        int many = 0;
        int ahead = now.starts;
        for (int phase = 0; phase < phasesOver(); phase++) {
            many += Integer.bitCount((ahead ^ now.behind[phase]) & now.trues(council));
            ahead = now.behind[phase];
        }
        return many;
    }

    private int mostObedientPhase() {
        int which = NONE;
        int most = NONE;
        for (int phase = 0; phase < phasesOver(); phase++) {
            int many = Integer.bitCount(now.took[phase] & now.trues(council));
            if (many > most) {
                most = many;
                which = phase;
            }
        }
        return which;
    }

    /** Bytes that were fed or written, and the part of them that is being read. */
    private static final class Tape {
        private static final int FULL = 500;
        private static final int END = 0;
        private static final int BETWEEN = 1;
        private static final int WORD = 2;
        private static final int DIGITS = 3;
        private static final int OTHER = 4;

        private final int[] bytes = new int[FULL + 20];
        private int length;
        private int at;
        private int behind;
        private int kind;

        private void put(int four) {
            for (int shift = 24; shift >= 0; shift -= 8) {
                int next = four >>> shift & 255;
                if (next != 0) {
                    add(next);
                }
            }
        }

        private void add(int sign) {
            if (length < bytes.length) {
                bytes[length] = sign;
                length++;
            }
        }

        private void write(String words) {
            for (int i = 0; i < words.length(); i++) {
                add(words.charAt(i));
            }
        }

        private void writeNumber(String words, int digit) {
            write(words);
            add('0' + digit);
        }

        private void firstPart() {
            behind = 0;
            nextPart();
        }

        private void nextPart() {
            int i = behind;
            while (i < length && bytes[i] == ' ') {
                i++;
            }
            at = i;
            kind = END;
            if (i < length) {
                kind = kindOf(bytes[i]);
                i++;
            }
            boolean row = kind == WORD || kind == DIGITS;
            while (row && i < length && kindOf(bytes[i]) == kind) {
                i++;
            }
            behind = i;
        }

        private static int kindOf(int sign) {
            if (sign >= 'a' && sign <= 'z') {
                return WORD;
            }
            if (sign >= '0' && sign <= '9') {
                return DIGITS;
            }
            return sign == ';' ? BETWEEN : OTHER;
        }

        private boolean isWord(String word) {
            if (kind != WORD || behind - at != word.length()) {
                return false;
            }
            for (int i = 0; i < word.length(); i++) {
                if (bytes[at + i] != word.charAt(i)) {
                    return false;
                }
            }
            return true;
        }

        private int digits() {
            return kind == DIGITS ? behind - at : 0;
        }

        private int digitAt(int i) {
            return i >= 0 && i < digits() ? bytes[at + i] - '0' : NONE;
        }

        /** The number of one digit that stands here, or NONE. */
        private int number(int low, int high) {
            int digit = digits() == 1 ? digitAt(0) : NONE;
            return digit < low || digit > high ? NONE : digit;
        }
    }

    /** The rules by which PEERS hear and count, as a TEXT tells them. */
    private static final class Council {
        private static final int SIZE = 0;
        private static final int BOUND = 1;
        private static final int PHASES = 2;
        private static final int STARTS = 3;
        private static final int FALSES = 4;
        private static final int SKIP = 5;
        private static final int PIECES = 6;
        private static final int FIRM = 4;

        private int form;
        private int size;
        private int bound;
        private int phases;
        private int starts;
        private int falses;
        private boolean skip;
        private int toldPieces;

        private void copy(Council other) {
            form = other.form;
            size = other.size;
            bound = other.bound;
            phases = other.phases;
            starts = other.starts;
            falses = other.falses;
            skip = other.skip;
        }

        /** Where the FAULT is, or NONE. */
        private int readFrom(Tape tape) {
            clear();
            tape.firstPart();
            form = tape.isWord("king") ? KINGS : QUEENS;
            if (form == QUEENS && !tape.isWord("queen")) {
                return tape.at;
            }
            tape.nextPart();
            for (int i = 0; i <= PIECES && tape.kind == Tape.BETWEEN; i++) {
                tape.nextPart();
                if (!readPiece(tape)) {
                    return tape.at;
                }
                tape.nextPart();
            }
            if (tape.kind != Tape.END || !isTold(SIZE)) {
                return tape.at;
            }
            fillIn();
            return NONE;
        }

        private void clear() {
            toldPieces = 0;
            size = 0;
            starts = 0;
            falses = 0;
            skip = false;
        }

        private void fillIn() {
            bound = isTold(BOUND) ? bound : greatestBound(form, size);
            phases = isTold(PHASES) ? phases : bound + 1;
        }

        private boolean isTold(int piece) {
            return bit(toldPieces, piece) == 1;
        }

        /** False: the part at which the TAPE stands can't stand there. */
        private boolean readPiece(Tape tape) {
            int piece = pieceOf(tape);
            if (piece == NONE || isTold(piece)) {
                return false;
            }
            if ((piece == STARTS || piece == FALSES) && !isTold(SIZE)) {
                return false;
            }
            toldPieces |= 1 << piece;
            if (piece == SKIP) {
                skip = true;
                return true;
            }
            tape.nextPart();
            switch (piece) {
                case SIZE:
                    size = tape.number(3, MOST_PEERS);
                    return size != NONE;
                case BOUND:
                    bound = tape.number(0, 4);
                    return bound != NONE;
                case PHASES:
                    phases = tape.number(1, MOST_PHASES);
                    return phases != NONE;
                case STARTS:
                    return readStarts(tape);
                default:
                    return readFalses(tape);
            }
        }

        private static int pieceOf(Tape tape) {
            for (int piece = 0; piece < PIECES; piece++) {
                if (tape.isWord(wordOf(piece))) {
                    return piece;
                }
            }
            return NONE;
        }

        private static String wordOf(int piece) {
            switch (piece) {
                case SIZE:
                    return "size";
                case BOUND:
                    return "bound";
                case PHASES:
                    return "phases";
                case STARTS:
                    return "starts";
                case FALSES:
                    return "false";
                default:
                    return "skip";
            }
        }

        private boolean readStarts(Tape tape) {
            if (tape.digits() != size) {
                return false;
            }
            for (int i = 0; i < size; i++) {
                int digit = tape.digitAt(i);
                if (digit > 1) {
                    return false;
                }
                starts |= digit << i;
            }
            return true;
        }

        private boolean readFalses(Tape tape) {
            if (tape.digits() < 1 || tape.digits() >= size) {
                return false;
            }
            int last = NONE;
            for (int i = 0; i < tape.digits(); i++) {
                int digit = tape.digitAt(i);
                if (digit <= last || digit >= size) {
                    return false;
                }
                falses |= 1 << digit;
                last = digit;
            }
            return true;
        }

        private int rounds() {
            return form == KINGS ? 3 : 2;
        }

        private int allRounds() {
            return phases * rounds();
        }

        private int phaseAt(int gone) {
            return gone / rounds();
        }

        private int turnAt(int gone) {
            return gone % rounds();
        }

        private int ruler(int phase) {
            return size > 0 ? phase % size : 0;
        }

        private int everybody() {
            return (1 << size) - 1;
        }

        private int foretold() {
            int all = size * size;
            return form == KINGS ? phases * (2 * all - size - 1) : phases * (all - 1);
        }

        /** How many FREE LETTERS the first PHASES have. */
        private int freeLetters(int liars, int upTo) {
            int many = Integer.bitCount(liars);
            int receivers = size - many;
            int sum = upTo * (rounds() - 1) * many * receivers;
            for (int phase = 0; phase < upTo; phase++) {
                sum += bit(liars, ruler(phase)) == 1 ? receivers : 0;
            }
            return sum;
        }

        /** What a king's PEER OFFERS that hears so many 0 and 1 in ROUND 0. */
        private int offer(int zeros, int ones) {
            int enough = size - bound;
            if (zeros >= enough) {
                return 0;
            }
            return ones >= enough ? 1 : NOTHING;
        }

        /** To what so many 0 and 1 bring a PEER ahead of the RULER's word (NOTHING: it stays as it was), and FIRM. */
        private int view(int zeros, int ones) {
            int top = ones > zeros ? 1 : 0;
            int most = Math.max(zeros, ones);
            if (form == QUEENS) {
                return 2 * most > size + 2 * bound ? top + FIRM : top;
            }
            int word = most > bound ? top : NOTHING;
            return most >= size - bound ? word + FIRM : word;
        }
    }

    /** The LINES by which FALSE ones send. */
    private static final class Plan {
        private static final int MOST_LINES = 20;
        private static final int PARTS = 5;
        private static final int ACT = 4;
        private static final int SAME = 3;
        private static final int TURN = 4;
        private static final int SPLIT = 5;
        private static final int DRAW = 6;

        private final int[] parts = new int[MOST_LINES * PARTS];
        private int lines;

        private void copy(Plan other) {
            System.arraycopy(other.parts, 0, parts, 0, parts.length);
            lines = other.lines;
        }

        private int part(int line, int what) {
            return parts[line * PARTS + what];
        }

        /** Where the FAULT is, or NONE. */
        private int readFrom(Tape tape) {
            lines = 0;
            tape.firstPart();
            for (int i = 0; i < MOST_LINES; i++) {
                if (!readLine(tape, i * PARTS)) {
                    return tape.at;
                }
                lines = i + 1;
                tape.nextPart();
                if (tape.kind == Tape.END) {
                    return NONE;
                }
                if (tape.kind != Tape.BETWEEN) {
                    return tape.at;
                }
                tape.nextPart();
            }
            return tape.at;
        }

        /** False: the part at which the TAPE stands can't stand there. */
        private boolean readLine(Tape tape, int place) {
            for (int what = 0; what < ACT; what++) {
                parts[place + what] = NONE;
                if (tape.isWord(wordOf(what))) {
                    tape.nextPart();
                    int number = tape.number(0, greatestOf(what));
                    if (number == NONE) {
                        return false;
                    }
                    parts[place + what] = number;
                    tape.nextPart();
                }
            }
            parts[place + ACT] = actOf(tape);
            return parts[place + ACT] != NONE;
        }

        private static String wordOf(int what) {
            switch (what) {
                case 0:
                    return "phase";
                case 1:
                    return "round";
                case 2:
                    return "from";
                default:
                    return "to";
            }
        }

        private static int greatestOf(int what) {
            switch (what) {
                case 0:
                    return MOST_PHASES - 1;
                case 1:
                    return 2;
                default:
                    return MOST_PEERS - 1;
            }
        }

        private static int actOf(Tape tape) {
            if (tape.isWord("same")) {
                return SAME;
            }
            if (tape.isWord("turn")) {
                return TURN;
            }
            if (tape.isWord("split")) {
                return SPLIT;
            }
            return tape.isWord("draw") ? DRAW : tape.number(0, NOTHING);
        }

        /** What the first LINE that agrees asks for; SAME, if none does. */
        private int actFor(int phase, int turn, int from, int to) {
            for (int line = 0; line < lines; line++) {
                int place = line * PARTS;
                boolean when = parts[place] == NONE || parts[place] == phase;
                when = when && (parts[place + 1] == NONE || parts[place + 1] == turn);
                boolean who = parts[place + 2] == NONE || parts[place + 2] == from;
                who = who && (parts[place + 3] == NONE || parts[place + 3] == to);
                if (when && who) {
                    return parts[place + ACT];
                }
            }
            return SAME;
        }
    }

    /** By what FALSE ones choose the LETTERS that they send in a ROUND. */
    private abstract static class Voice {
        int phase;
        int turn;

        abstract int choose(Course course, int from, int to, int asTrue);
    }

    /** By what was SAID in this Course and by the PLAN. */
    private static final class Planned extends Voice {
        private final Plan plan = new Plan();

        int choose(Course course, int from, int to, int asTrue) {
            int letter = course.saidLetter(phase, turn, from, to);
            if (letter != NONE) {
                return letter;
            }
            int act = plan.actFor(phase, turn, from, to);
            switch (act) {
                case Plan.SAME:
                    return asTrue;
                case Plan.TURN:
                    return asTrue == NOTHING ? NOTHING : 1 - asTrue;
                case Plan.SPLIT:
                    return to % 2;
                case Plan.DRAW:
                    return course.draw();
                default:
                    return act;
            }
        }
    }

    /** Each LETTER a draw. */
    private static final class Chance extends Voice {
        int choose(Course course, int from, int to, int asTrue) {
            return course.draw();
        }
    }

    /** The FREE LETTERS by the bits of a number, in the order of sending. */
    private static final class Free extends Voice {
        private int bits;
        private int used;

        int choose(Course course, int from, int to, int asTrue) {
            if (bit(course.falses, to) == 1) {
                return asTrue;
            }
            int letter = bit(bits, used);
            used++;
            return letter;
        }
    }

    /** All that changes while PHASES go on: a copy of it is an IMAGE, or undoes an ACT. */
    private static final class Course {
        // A row of LETTERS has four bits for each receiver: so rows add up to counts, which are 9 at most.
        private static final long EACH = 0x111111111L;
        private static final int TURNS = 3;

        private int starts;
        private int falses;
        private int gone;
        private int holds;
        private int sent;
        private int sentByTrue;
        private int saidCount;
        private long suspects;
        private long draws;
        private final int[] said = new int[MOST_SAID];
        private final long[] rows = new long[MOST_PHASES * TURNS * MOST_PEERS];
        private final long[] ones = new long[MOST_PHASES * TURNS];
        private final long[] nothings = new long[MOST_PHASES * TURNS];
        private final long[] words = new long[MOST_PHASES];
        private final int[] behind = new int[MOST_PHASES];
        private final int[] firm = new int[MOST_PHASES];
        private final int[] took = new int[MOST_PHASES];
        private final int[] sentIn = new int[MOST_PHASES];

        private void begin(int startBits, int falseBits, long seed) {
            starts = startBits;
            falses = falseBits;
            gone = 0;
            holds = startBits;
            sent = 0;
            sentByTrue = 0;
            saidCount = 0;
            suspects = 0;
            draws = seed;
        }

        private void copy(Course other) {
            starts = other.starts;
            falses = other.falses;
            gone = other.gone;
            holds = other.holds;
            sent = other.sent;
            sentByTrue = other.sentByTrue;
            saidCount = other.saidCount;
            suspects = other.suspects;
            draws = other.draws;
            System.arraycopy(other.said, 0, said, 0, said.length);
            System.arraycopy(other.rows, 0, rows, 0, rows.length);
            System.arraycopy(other.ones, 0, ones, 0, ones.length);
            System.arraycopy(other.nothings, 0, nothings, 0, nothings.length);
            System.arraycopy(other.words, 0, words, 0, words.length);
            System.arraycopy(other.behind, 0, behind, 0, behind.length);
            System.arraycopy(other.firm, 0, firm, 0, firm.length);
            System.arraycopy(other.took, 0, took, 0, took.length);
            System.arraycopy(other.sentIn, 0, sentIn, 0, sentIn.length);
        }

        // ---- what was SAID ----

        private static int placeOf(int phase, int turn, int from, int to) {
            return ((phase * TURNS + turn) * MOST_PEERS + from) * MOST_PEERS + to;
        }

        private void addSaid(int phase, int turn, int from, int to, int letter) {
            if (saidCount < said.length) {
                said[saidCount] = placeOf(phase, turn, from, to) * 3 + letter;
                saidCount++;
            }
        }

        private int saidLetter(int phase, int turn, int from, int to) {
            int place = placeOf(phase, turn, from, to);
            for (int i = saidCount - 1; i >= 0; i--) {
                if (said[i] / 3 == place) {
                    return said[i] % 3;
                }
            }
            return NONE;
        }

        private void dropSaidByTrue() {
            int left = 0;
            for (int i = 0; i < saidCount; i++) {
                int from = said[i] / (3 * MOST_PEERS) % MOST_PEERS;
                if (bit(falses, from) == 1) {
                    said[left] = said[i];
                    left++;
                }
            }
            saidCount = left;
        }

        // ---- a ROUND ----

        private int draw() {
            draws = draws * 6364136223846793005L + 1442695040888963407L;
            return (int) ((draws >>> 33) % 3);
        }

        private void play(Council rules, Voice voice) {
            int phase = rules.phaseAt(gone);
            if (phase >= rules.phases || phase >= MOST_PHASES) {
                return;
            }
            int before = sent;
            voice.phase = phase;
            voice.turn = rules.turnAt(gone);
            if (voice.turn == rules.rounds() - 1) {
                int ruler = rules.ruler(phase);
                send(rules, voice, ruler, ruler);
                hearRuler(rules, phase, ruler);
            } else {
                send(rules, voice, 0, rules.size - 1);
                hearAll(rules, phase, voice.turn);
            }
            sentIn[phase] = voice.turn == 0 ? sent - before : sentIn[phase] + sent - before;
            gone++;
        }

        private void send(Council rules, Voice voice, int first, int last) {
            int turn = voice.phase * TURNS + voice.turn;
            ones[turn] = 0;
            nothings[turn] = 0;
            for (int from = first; from <= last; from++) {
                long row = rowOf(rules, voice, from);
                rows[turn * MOST_PEERS + from] = row;
                ones[turn] += row & EACH;
                nothings[turn] += row >>> 1 & EACH;
                int reached = reachedBy(row, rules.size, from);
                sent += reached;
                sentByTrue += bit(falses, from) == 0 ? reached : 0;
            }
        }

        private long rowOf(Council rules, Voice voice, int from) {
            int asTrue = trueLetter(rules, voice, from);
            if (bit(falses, from) == 0) {
                return asTrue * EACH;
            }
            long row = 0;
            for (int to = 0; to < rules.size; to++) {
                row |= (long) voice.choose(this, from, to, asTrue) << 4 * to;
            }
            return row;
        }

        private int trueLetter(Council rules, Voice voice, int from) {
            boolean sendsHeld = voice.turn == 0 || rules.form == KINGS && voice.turn == 2;
            return sendsHeld ? bit(holds, from) : nibble(words[voice.phase], from);
        }

        private static int reachedBy(long row, int size, int from) {
            long peers = (1L << 4 * size) - 1 & ~(15L << 4 * from);
            return size - 1 - Long.bitCount(row >>> 1 & EACH & peers);
        }

        private void hearAll(Council rules, int phase, int turn) {
            boolean offers = rules.form == KINGS && turn == 0;
            if (!offers) {
                firm[phase] = 0;
            }
            if (offers || rules.form == QUEENS) {
                words[phase] = 0;
            }
            for (int i = 0; i < rules.size; i++) {
                int zeros = zerosHeard(rules, phase, turn, i);
                int many = onesHeard(phase, turn, i);
                if (offers) {
                    words[phase] |= (long) rules.offer(zeros, many) << 4 * i;
                } else {
                    takeView(rules, phase, i, rules.view(zeros, many));
                }
            }
        }

        private void takeView(Council rules, int phase, int i, int view) {
            int word = view % Council.FIRM;
            firm[phase] |= view / Council.FIRM << i;
            if (rules.form == QUEENS) {
                words[phase] |= (long) word << 4 * i;
            } else if (word != NOTHING) {
                holds = holds & ~(1 << i) | word << i;
            }
        }

        private void hearRuler(Council rules, int phase, int ruler) {
            int next = 0;
            took[phase] = 0;
            for (int i = 0; i < rules.size; i++) {
                int word = letter(phase, rules.rounds() - 1, ruler, i);
                int own = rules.form == KINGS ? bit(holds, i) : nibble(words[phase], i);
                boolean isFirm = bit(firm[phase], i) == 1;
                boolean wary = rules.skip && bit(waryOf(ruler), i) == 1;
                if (isFirm && word != own && i != ruler) {
                    suspects |= 1L << ruler * MOST_PEERS + i;
                }
                if (isFirm || wary) {
                    next |= own << i;
                } else {
                    took[phase] |= 1 << i;
                    next |= word == 1 ? 1 << i : 0;
                }
            }
            holds = next;
            behind[phase] = next;
        }

        // ---- looking back ----

        private int trues(Council rules) {
            return rules.everybody() & ~falses;
        }

        private int letter(int phase, int turn, int from, int to) {
            return nibble(rows[(phase * TURNS + turn) * MOST_PEERS + from], to);
        }

        private int onesHeard(int phase, int turn, int i) {
            return nibble(ones[phase * TURNS + turn], i);
        }

        private int zerosHeard(Council rules, int phase, int turn, int i) {
            return rules.size - onesHeard(phase, turn, i) - nibble(nothings[phase * TURNS + turn], i);
        }

        /** Who SUSPECTS this RULER (only the first six PEERS ever rule). */
        private int waryOf(int ruler) {
            return (int) (suspects >>> ruler * MOST_PEERS) & EVERYBODY;
        }

        private int suspectedBy(int i) {
            int bits = 0;
            for (int ruler = 0; ruler < MOST_PHASES; ruler++) {
                bits |= bit(waryOf(ruler), i) << ruler;
            }
            return bits;
        }

        private boolean alike(Council rules, int words) {
            int trues = trues(rules);
            return (words & trues) == 0 || (words & trues) == trues;
        }

        private int agreedFrom(Council rules) {
            int first = NONE;
            for (int phase = rules.phaseAt(gone) - 1; phase >= 0 && alike(rules, behind[phase]); phase--) {
                first = phase;
            }
            return first;
        }

        /** How many FIRM ones but the RULER heard another word from it than they held: they still hold it behind. */
        private int crossedIn(Council rules, int phase) {
            int ruler = rules.ruler(phase);
            int many = 0;
            for (int i = 0; i < rules.size; i++) {
                boolean asked = i != ruler && bit(firm[phase], i) == 1;
                boolean other = letter(phase, rules.rounds() - 1, ruler, i) != bit(behind[phase], i);
                many += asked && other ? 1 : 0;
            }
            return many;
        }
    }

    /** The latest ACTS, each as the Course ahead of it. */
    private static final class Acts {
        private static final int MOST = 20;

        private final Course[] ahead = new Course[MOST];
        private int newest;
        private int depth;

        private Acts() {
            for (int i = 0; i < MOST; i++) {
                ahead[i] = new Course();
            }
        }

        private void keep(Course course) {
            newest = (newest + 1) % MOST;
            ahead[newest].copy(course);
            depth = Math.min(depth + 1, MOST);
        }

        private boolean takeBack(Course course) {
            if (depth < 1) {
                return false;
            }
            course.copy(ahead[newest]);
            newest = (newest + MOST - 1) % MOST;
            depth--;
            return true;
        }
    }

    /**
     * Looks for BROKEN numbers. What FALSE ones hold never reaches a TRUE one (all they tell it is FREE), so only TRUE
     * ones are followed. These hear the same from TRUE ones: what a receiver comes to depends only on how many 1 the
     * FALSE ones send it, and of each such outcome the least row of LETTERS is tried, not all rows. What is held ahead of
     * a PHASE from which nothing breaks is kept: the same is met again and again, from other STARTS, too.
     */
    private static final class Search {
        private static final int FALSE_AT_MOST = MOST_PEERS;

        private final Council rules = new Council();
        private final int[] receivers = new int[MOST_PEERS];
        private final int[] freeAhead = new int[MOST_PHASES + 1];
        private final int[] outcomes = new int[MOST_PHASES * 2 * FALSE_AT_MOST];
        private final int[] lies = new int[MOST_PHASES * 2 * FALSE_AT_MOST];
        private final long[] sound = new long[MOST_PHASES << MOST_PEERS - 6];
        private int breaks;
        private int phases;
        private int falses;
        private int trues;
        private int many;
        private int liars;
        private int found;
        private boolean anyWillDo;

        /** For what is asked next; only where at most 12 LETTERS are FREE. */
        private void prepare(Council council, int liarBits, int upTo) {
            rules.copy(council);
            phases = upTo;
            falses = liarBits;
            trues = rules.everybody() & ~falses;
            liars = Integer.bitCount(falses);
            many = 0;
            for (int i = 0; i < rules.size; i++) {
                if (bit(trues, i) == 1) {
                    receivers[many] = i;
                    many++;
                }
            }
            for (int phase = 0; phase <= MOST_PHASES; phase++) {
                freeAhead[phase] = rules.freeLetters(falses, phase);
            }
            for (int i = 0; i < sound.length; i++) {
                sound[i] = 0;
            }
        }

        /** The least BROKEN number, or NONE. */
        private int least(int starts) {
            anyWillDo = false;
            found = NONE;
            explore(0, starts & trues, 0L, 0);
            return found;
        }

        private boolean isBroken(int starts) {
            anyWillDo = true;
            found = NONE;
            explore(0, starts & trues, 0L, 0);
            return found != NONE;
        }

        private boolean isEnough() {
            return anyWillDo && found != NONE;
        }

        private void explore(int phase, int holds, long suspects, int number) {
            if (phase >= phases || phase >= MOST_PHASES) {
                judge(holds, number);
                return;
            }
            int state = phase << MOST_PEERS | holds;
            if ((sound[state >>> 6] >>> state & 1) == 1) {
                return;
            }
            int before = breaks;
            if (rules.form == KINGS) {
                tryOffers(phase, holds, suspects, number);
            } else {
                tryViews(phase, holds, suspects, trues & ~holds | holds << MOST_PEERS, number);
            }
            // Where SUSPICION counts, the same that is held may break later, with other SUSPECTS.
            if (breaks == before && !doesSuspicionCount(0)) {
                sound[state >>> 6] |= 1L << state;
            }
        }

        private void judge(int holds, int number) {
            if (holds == 0 || holds == trues) {
                return;
            }
            breaks++;
            if (found == NONE || number < found) {
                found = number;
            }
        }

        private void tryOffers(int phase, int holds, long suspects, int number) {
            int place = phase * 2 * FALSE_AT_MOST;
            int ones = Integer.bitCount(holds);
            int choices = 0;
            for (int more = 0; more <= liars; more++) {
                int offer = rules.offer(rules.size - ones - more, ones + more);
                choices = addChoice(place, choices, offer, more);
            }
            int picks = power(choices);
            for (int pick = 0; pick < picks && !isEnough(); pick++) {
                int words = 0;
                int rest = pick;
                int next = number;
                for (int k = 0; k < many; k++) {
                    int choice = place + rest % choices;
                    rest /= choices;
                    words |= wordOf(outcomes[choice], receivers[k]);
                    next |= bitsOf(lies[choice], freeAhead[phase] + k);
                }
                tryViews(phase, holds, suspects, words, next);
            }
        }

        /** One that sends 0 is a bit of the low nine, one that sends 1 of the next nine. */
        private static int wordOf(int letter, int sender) {
            return letter == NOTHING ? 0 : 1 << sender + letter * MOST_PEERS;
        }

        private void tryViews(int phase, int holds, long suspects, int words, int number) {
            int place = (phase * 2 + 1) * FALSE_AT_MOST;
            int zeros = Integer.bitCount(words & EVERYBODY);
            int ones = Integer.bitCount(words >>> MOST_PEERS);
            int choices = 0;
            for (int more = 0; more <= liars; more++) {
                int view = rules.view(zeros + liars - more, ones + more);
                choices = addChoice(place, choices, view, more);
            }
            int base = freeAhead[phase] + (rules.form == KINGS ? liars * many : 0);
            int picks = power(choices);
            for (int pick = 0; pick < picks && !isEnough(); pick++) {
                int own = holds;
                int firm = 0;
                int rest = pick;
                int next = number;
                for (int k = 0; k < many; k++) {
                    int choice = place + rest % choices;
                    rest /= choices;
                    own = seen(own, 1 << receivers[k], outcomes[choice]);
                    firm |= outcomes[choice] / Council.FIRM << receivers[k];
                    next |= bitsOf(lies[choice], base + k);
                }
                tryRuler(phase, own, firm, suspects, next);
            }
        }

        /** What is held when one comes to a view. */
        private static int seen(int holds, int who, int view) {
            int word = view % Council.FIRM;
            if (word == NOTHING) {
                return holds;
            }
            return word == 1 ? holds | who : holds & ~who;
        }

        /** Of a FALSE RULER's LETTERS those that would change nothing stay 0. */
        private void tryRuler(int phase, int own, int firm, long suspects, int number) {
            int ruler = rules.ruler(phase);
            int shift = ruler * MOST_PEERS;
            int wary = rules.skip ? (int) (suspects >>> shift) & EVERYBODY : 0;
            int takers = trues & ~firm & ~wary;
            int open = takers | (doesSuspicionCount(phase) ? firm : 0);
            int fromTrue = bit(own, ruler) == 1 ? trues : 0;
            int base = freeAhead[phase + 1] - many;
            int picks = bit(falses, ruler) == 1 ? 1 << many : 1;
            for (int pick = 0; pick < picks && !isEnough(); pick++) {
                int fromFalse = spread(pick);
                if ((fromFalse & ~open) == 0) {
                    int heard = fromTrue | fromFalse;
                    int holds = own & ~takers | heard & takers;
                    long crossed = firm & (heard ^ own);
                    explore(phase + 1, holds, suspects | crossed << shift, number | pick << base);
                }
            }
        }

        /** Only with skip, and if the RULER of this PHASE rules again. */
        private boolean doesSuspicionCount(int phase) {
            return rules.skip && phase + rules.size < phases;
        }

        private int spread(int pick) {
            int who = 0;
            for (int k = 0; k < many; k++) {
                who |= (pick >>> k & 1) << receivers[k];
            }
            return who;
        }

        private int addChoice(int place, int choices, int outcome, int more) {
            for (int i = 0; i < choices; i++) {
                if (outcomes[place + i] == outcome) {
                    return choices;
                }
            }
            outcomes[place + choices] = outcome;
            lies[place + choices] = more;
            return choices + 1;
        }

        /** In how many ways the receivers can choose. */
        private int power(int choices) {
            int ways = 1;
            for (int k = 0; k < many; k++) {
                ways *= choices;
            }
            return ways;
        }

        /** The least bits by which so many FALSE ones send 1 to a receiver whose first LETTER has this place. */
        private int bitsOf(int ones, int first) {
            int bits = 0;
            for (int i = 0; i < ones; i++) {
                bits |= 1 << first + i * many;
            }
            return bits;
        }
    }
}
