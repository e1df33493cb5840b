import java.util.ArrayList;
import java.util.List;

/** The sentences on what is BROKEN: of ==== 3. of the Terms, promises 22 to 27, 29 and 30. */
final class EdgesOfBroken {
    private static final int NONE = RulerWord.NONE;
    private static final int[] FAR = {Integer.MIN_VALUE, -1000000, -3, -2, -1, 9, 1000000, Integer.MAX_VALUE};
    /** All of these have 12 FREE LETTERS at most. */
    private static final String[] ASKED = {
        "king;size 3;bound 1;phases 1;false 0;starts 001",
        "king;size 3;bound 1;phases 2;false 1;starts 010",
        "king;size 3;bound 2;phases 2;false 2;starts 110",
        "king;size 3;bound 0;phases 2;false 02;starts 110",
        "king;size 4;bound 1;phases 2;false 3;starts 0101",
        "king;size 4;bound 2;phases 1;false 12;starts 1001",
        "king;size 4;bound 0;phases 1;false 0;starts 0110",
        "king;size 5;bound 1;phases 1;false 4;starts 01100",
        "king;size 5;bound 1;phases 1;false 0;starts 01100",
        "king;size 7;bound 2;phases 1;false 3;starts 1101000",
        "queen;size 3;bound 1;phases 4;false 0;starts 011;skip",
        "queen;size 3;bound 0;phases 4;false 0;starts 110;skip",
        "queen;size 3;bound 1;phases 4;false 0;starts 011",
        "queen;size 3;bound 1;phases 4;false 0;starts 000;skip",
        "queen;size 3;bound 1;phases 4;false 0;starts 000",
        "queen;size 3;bound 0;phases 5;false 2;starts 100;skip",
        "queen;size 3;bound 1;phases 1;false 0;starts 011",
        "queen;size 4;bound 1;phases 2;false 01;starts 0110",
        "queen;size 4;bound 0;phases 3;false 2;starts 0110",
        "queen;size 5;bound 0;phases 1;false 04;starts 01101",
        "queen;size 5;bound 1;phases 2;false 0;starts 01101",
        "queen;size 9;bound 2;phases 1;false 8;starts 111100000",
        "queen;size 9;bound 1;phases 1;starts 111100000",
        "king;size 3;bound 3;phases 2;starts 011",
        "king;size 3;bound 0;phases 1;false 0;starts 000",
        "queen;size 3;bound 1;phases 4;false 2;starts 110;skip",
        "king;size 5;bound 1;phases 1;false 13;starts 10100",
        "king;size 5;bound 2;phases 1;false 34;starts 10000",
        "queen;size 5;bound 1;phases 1;false 03;starts 00000",
        "queen;size 5;bound 0;phases 1;false 12;starts 10000",
        "queen;size 6;bound 1;phases 1;false 235;starts 110010",
        "king;size 7;bound 1;phases 1;false 123456;starts 1010011",
    };
    private static final String[] NOT_ASKED = {"king;size 7;phases 1;false 012345", "king;size 4;phases 2;false 1", "queen;size 9;phases 1;false 01",
        "king;size 9;phases 6;false 0123"};

    private final Words words;

    EdgesOfBroken(Words words) {
        this.words = words;
    }

    void all() {
        words.section("Terms");
        brokenTerms();
        startsTerms();
        neededTerms();
        planTerms();
        weakestTerms();
        free();
        broken();
        brokenStarts();
        canBreak();
        brokenPlan();
        weakest();
        held();
        needed();
    }

    /** The FREE LETTERS in the order of sending: phase, round, from, to. */
    private static List<int[]> freeLetters(RulerWord x) {
        List<int[]> all = new ArrayList<>();
        int n = x.rule(1);
        int rounds = x.rule(9);
        for (int gone = 0; gone < x.rule(3) * rounds; gone++) {
            for (int from = 0; from < n; from++) {
                boolean sends = gone % rounds < rounds - 1 || from == gone / rounds % n;
                for (int to = 0; to < n; to++) {
                    if (sends && x.peer(from, 2) == 1 && x.peer(to, 2) == 0) {
                        all.add(new int[] {gone / rounds, gone % rounds, from, to});
                    }
                }
            }
        }
        return all;
    }

    /** A whole run in which the FREE LETTERS are SAID by hand, the others as TRUE ones send. */
    private static RulerWord saidByHand(String council, int falses, int starts, int bits) {
        RulerWord x = Due.of(council);
        x.falseOnes(falses);
        x.starts(starts);
        int place = 0;
        for (int[] letter : freeLetters(x)) {
            x.say(letter[0], letter[1], letter[2], letter[3], bits >> place & 1);
            place++;
        }
        x.run();
        return x;
    }

    /** The least BROKEN number, each tried by hand; -2, if more than 12 are FREE. */
    private static int byHand(String council, int falses, int starts) {
        RulerWord x = Due.of(council);
        x.falseOnes(falses);
        int free = freeLetters(x).size();
        for (int bits = 0; free <= 12 && bits < 1 << free; bits++) {
            if (saidByHand(council, falses, starts, bits).state(0) == 0) {
                return bits;
            }
        }
        return free <= 12 ? NONE : -2;
    }

    private static int byHand(String council) {
        RulerWord x = Due.of(council);
        return byHand(council, x.rule(5), x.rule(4));
    }

    private void brokenTerms() {
        words.says("BROKEN: each FALSE one's LETTERS to TRUE ones, 0 or 1 each (one to a FALSE one, oneself: as a TRUE one), in all "
            + "PHASES, in the order of sending, as bits, the first the lowest: FREE ones (12 at most, else it isn't asked): the "
            + "least number by which they aren't AGREED behind the last PHASE.");
        for (String council : ASKED) {
            words.is(council, Due.of(council).broken(), byHand(council));
        }
        for (String council : NOT_ASKED) {
            words.is(council, Due.of(council).broken(), -2);
        }
        words.is("12 are asked", Due.of("king;size 4;phases 2;false 3").broken(), NONE);
        words.is("12 are asked, with one true", Due.of("king;size 7;phases 1;false 123456").broken(), NONE);
        words.is("13 aren't", Due.of("king;size 7;phases 1;false 012345").broken(), -2);
        words.says("(From the STARTS; SAID, PLAN don't count.)");
        for (String council : ASKED) {
            RulerWord x = Due.of(council, "to 0 2;turn", 1);
            int want = Due.of(council).broken();
            for (int i = 0; i < x.rule(1); i++) {
                x.say(0, 0, i, 0, 2);
            }
            words.is(council + ", said", x.broken(), want);
            x.round();
            words.is(council + ", behind a round", x.broken(), want);
            x.run();
            words.is(council + ", behind all", x.broken(), want);
        }
    }

    private void startsTerms() {
        words.says("BROKEN STARTS: how many STARTS (all 2 to the N of them, PEER 0's digit the lowest bit) there are for which such a "
            + "number is; the least such.");
        for (String council : ASKED) {
            RulerWord x = Due.of(council);
            if (x.free() <= 8 && x.rule(1) <= 5) {
                int many = 0;
                int least = NONE;
                for (int starts = (1 << x.rule(1)) - 1; starts >= 0; starts--) {
                    if (byHand(council, x.rule(5), starts) != NONE) {
                        many++;
                        least = starts;
                    }
                }
                words.is(council + ": how many", x.brokenStarts(0), many);
                words.is(council + ": the least", x.brokenStarts(1), least);
            }
        }
        for (int rest = 0; rest < 2 * 3 * 3 * 3 * 30; rest++) {
            int n = 3 + rest / 2 % 3;
            startsOneByOne((rest % 2 == 0 ? "king;size " : "queen;size ") + n + ";bound " + rest / 6 % 3 + ";phases "
                + (1 + rest / 18 % 3), rest / 54 % ((1 << n) - 1));
        }
        RulerWord x = Due.of("king;size 9;bound 4;phases 1");
        words.is("none of 512", x.brokenStarts(0), 0);
        x = Due.of("king;size 3;bound 3;phases 1");
        words.is("all but two of 8", x.brokenStarts(0), 6);
        words.is("peer 0 alone starts with 1", x.brokenStarts(1), 1);
        words.says("CAN BREAK: of all sets of as many FALSE ones as there are, how many have BROKEN STARTS; the least such set (bits).");
        for (String council : new String[] {"king;size 3;bound 1;phases 1;false 0", "king;size 3;bound 0;phases 1;false 2",
            "queen;size 3;bound 1;phases 2;false 1", "king;size 3;bound 2;phases 1;false 12", "queen;size 4;bound 1;phases 1;false 03",
            "queen;size 4;bound 1;phases 1;false 2", "queen;size 5;bound 1;phases 1;false 2", "king;size 4;bound 4;phases 1"}) {
            x = Due.of(council);
            int many = 0;
            int least = NONE;
            for (int set = 30; set >= 0; set--) {
                boolean fits = set < (1 << x.rule(1)) - 1 && Integer.bitCount(set) == Integer.bitCount(x.rule(5));
                if (fits && anyStarts(council, set)) {
                    many++;
                    least = set;
                }
            }
            words.is(council + ": how many sets", x.canBreak(0), many);
            words.is(council + ": the least set", x.canBreak(1), least);
        }
        words.says("(Asked only with N 5 at most.)");
        words.is("N 5", Due.of("queen;size 5;phases 1").canBreak(0), 0);
        words.is("N 6", Due.of("queen;size 6;phases 1").canBreak(0), -2);
        words.is("N 9", Due.of("queen;size 9;phases 1").canBreak(1), -2);
    }

    /** As many are counted as are broken when each is told and asked for itself. */
    private void startsOneByOne(String council, int falses) {
        RulerWord x = Due.of(council);
        x.falseOnes(falses);
        int many = 0;
        int least = NONE;
        for (int starts = (1 << x.rule(1)) - 1; starts >= 0 && x.free() <= 12; starts--) {
            x.starts(starts);
            if (x.broken() != NONE) {
                many++;
                least = starts;
            }
        }
        words.is(council + ": how many, false " + falses, x.brokenStarts(0), x.free() <= 12 ? many : -2);
        words.is(council + ": the least, false " + falses, x.brokenStarts(1), x.free() <= 12 ? least : -2);
    }

    private static boolean anyStarts(String council, int falses) {
        for (int starts = 0; starts < 1 << Due.of(council).rule(1); starts++) {
            if (byHand(council, falses, starts) != NONE) {
                return true;
            }
        }
        return false;
    }

    private static String withPhases(String council, int phases) {
        return council.replaceAll(";phases .", "") + ";phases " + phases;
    }

    private void neededTerms() {
        words.says("NEEDED: the fewest PHASES (1 on) with which (all else as it is) there is no BROKEN number, as long as 12 LETTERS at "
            + "most are FREE then, 6 PHASES at most.");
        for (String council : ASKED) {
            int want = NONE;
            for (int phases = 1; phases <= 6 && want == NONE; phases++) {
                int number = byHand(withPhases(council, phases));
                if (number == -2) {
                    break;
                }
                want = number == NONE ? phases : NONE;
            }
            words.is(council, Due.of(council).needed(), want);
        }
        words.is("nobody false: 1", Due.of("king;size 9;phases 6;starts 010101010").needed(), 1);
        words.is("never, up to 6 phases", Due.of("king;size 3;bound 3;starts 001").needed(), NONE);
        words.is("9 free with 1 phase, 18 with 2", Due.of("queen;size 4;bound 1;phases 6;false 01;starts 1101").needed(),
            neededByHand("queen;size 4;bound 1;false 01;starts 1101"));
        words.is("15 free with 1 phase", Due.of("king;size 6;phases 1;false 0").needed(), NONE);
        words.is("whatever P is", Due.of("queen;size 5;phases 6;false 0;starts 01100").needed(), 2);
        RulerWord x = Due.of("queen;size 5;phases 2;false 0;starts 01100");
        x.run();
        words.is("from the starts, behind all", x.needed(), 2);
        x = Due.of("queen;size 5;phases 2;false 0;starts 00000");
        words.is("from what is held then it would be another one", x.needed(), 1);
    }

    private static int neededByHand(String council) {
        int first = byHand(council + ";phases 1");
        int second = first < 0 ? NONE : byHand(council + ";phases 2");
        return first == NONE ? 1 : first == -2 || second != NONE ? NONE : 2;
    }

    private void planTerms() {
        words.says("BROKEN as a PLAN: LINES \"phase K round R from I to J L\", with ; between (one blank between the parts of a LINE, "
            + "none beside ;), one for each FREE LETTER of the BROKEN number, in the order of sending.");
        int shown = 0;
        for (String council : ASKED) {
            RulerWord x = Due.of(council);
            int number = x.broken();
            if (number != NONE) {
                StringBuilder want = new StringBuilder();
                int place = 0;
                for (int[] a : freeLetters(x)) {
                    want.append(place == 0 ? "" : ";").append("phase ").append(a[0]).append(" round ").append(a[1]);
                    want.append(" from ").append(a[2]).append(" to ").append(a[3]).append(' ').append(number >> place & 1);
                    place++;
                }
                words.is(council, Due.brokenPlan(x), want.toString());
                shown++;
            }
        }
        words.is("some are broken", shown >= 8, true);
        words.is("king;size 3;bound 1;phases 1;false 0;starts 001", Due.brokenPlan(Due.of("king;size 3;bound 1;phases 1;false 0;starts 001")),
            "phase 0 round 0 from 0 to 1 1;phase 0 round 0 from 0 to 2 0;phase 0 round 1 from 0 to 1 1;"
            + "phase 0 round 1 from 0 to 2 0;phase 0 round 2 from 0 to 1 0;phase 0 round 2 from 0 to 2 0");
    }

    private static int weakestByHand(String council) {
        RulerWord x = Due.of(council);
        int want = NONE;
        for (int i = x.rule(1) - 1; i >= 0; i--) {
            int set = x.rule(5) | 1 << i;
            if (x.peer(i, 2) == 0 && set != (1 << x.rule(1)) - 1) {
                int number = byHand(council, set, x.rule(4));
                if (number == -2) {
                    return -2;
                }
                want = number == NONE ? want : i;
            }
        }
        return want;
    }

    private void weakestTerms() {
        words.says("WEAKEST: the TRUE PEER (the lowest) which, FALSE too, besides those that are, brings a BROKEN number (from the STARTS);");
        String[] councils = {"king;size 3;bound 1;phases 1;starts 001", "king;size 3;bound 0;phases 1;starts 010",
            "queen;size 3;bound 1;phases 3;starts 110", "queen;size 4;bound 1;phases 1;starts 1010", "queen;size 4;bound 1;phases 1;"
            + "starts 1010;false 0", "queen;size 4;bound 0;phases 1;starts 1010;false 3", "queen;size 5;bound 1;phases 1;starts 10101",
            "king;size 4;bound 1;phases 1;starts 1110", "king;size 5;bound 2;phases 1;starts 11100", "king;size 3;bound 2;phases 2;"
            + "starts 100", "queen;size 9;bound 2;phases 1;starts 111100000"};
        for (String council : councils) {
            words.is(council, Due.of(council).weakest(), weakestByHand(council));
        }
        int others = 0;
        for (String council : councils) {
            RulerWord x = Due.of(council);
            int ahead = x.weakest();
            x.run();
            words.is(council + ", behind all: from the starts", x.weakest(), ahead);
            RulerWord y = Due.of(council);
            y.starts(Due.holds(x));
            others += y.weakest() != ahead ? 1 : 0;
        }
        words.is("with what is held then it would be another one", others > 0, true);
        words.says("one with which nobody would be TRUE is not asked.");
        words.is("2 alone is true", Due.of("king;size 3;bound 3;phases 1;starts 001;false 01").weakest(), NONE);
        words.is("8 alone is true, and more than 12 are free", Due.of("king;size 9;phases 6;false 01234567").weakest(), NONE);
    }

    // ---- promises ----

    private void free() {
        words.promise(22);
        words.says("How many FREE LETTERS there are.");
        for (int n = 3; n <= 9; n++) {
            for (int falses = 0; falses < (1 << n) - 1; falses += 1 + falses / 9) {
                for (int phases = 1; phases <= 6; phases += 5) {
                    for (String form : new String[] {"king", "queen"}) {
                        RulerWord x = Due.of(form + ";size " + n + ";phases " + phases);
                        x.falseOnes(falses);
                        words.is(form + " of " + n + ", false " + falses, x.free(), freeLetters(x).size());
                    }
                }
            }
        }
        words.says("NONE: no COUNCIL.");
        words.is("no council", new RulerWord().free(), NONE);
        words.is("none is free", Due.of("king;size 9").free(), 0);
    }

    private void broken() {
        words.promise(23);
        words.says("BROKEN: the least number.");
        words.is("kings of 3", Due.of("king;size 3;bound 1;phases 1;false 0;starts 001").broken(), 5);
        words.is("without a free letter", Due.of("king;size 3;bound 3;phases 1;starts 001").broken(), 0);
        words.says("NONE: none;");
        words.is("within the bound", Due.of("queen;size 5;phases 2;false 0;starts 00111").broken(), NONE);
        words.is("nobody false", Due.of("queen;size 9;phases 1;starts 010101010").broken(), NONE);
        words.is("one true", Due.of("queen;size 3;phases 1;starts 010;false 01;bound 4").broken(), NONE);
        words.says("-2: more than 12 are FREE, no COUNCIL.");
        words.is("no council", new RulerWord().broken(), -2);
        for (int n = 3; n <= 9; n++) {
            for (int phases = 1; phases <= 6; phases++) {
                for (int falses = 1; falses < 8 && falses < (1 << n) - 1; falses++) {
                    RulerWord x = Due.of("queen;size " + n + ";phases " + phases);
                    x.falseOnes(falses);
                    words.is("N " + n + ", P " + phases + ", false " + falses, x.broken() == -2, freeLetters(x).size() > 12);
                }
            }
        }
    }

    private void brokenStarts() {
        words.promise(24);
        words.says("BROKEN STARTS: how many (0), the least (1; NONE).");
        RulerWord x = Due.of("king;size 3;bound 3;phases 1;starts 000");
        words.is("how many", x.brokenStarts(0), 6);
        words.is("the least", x.brokenStarts(1), 1);
        x = Due.of("queen;size 5;phases 2;false 0;starts 00111");
        words.is("none: how many", x.brokenStarts(0), 0);
        words.is("none: the least", x.brokenStarts(1), NONE);
        words.is("the starts stay", x.rule(4), 28);
        words.says("-2: as broken(), no such what.");
        notAsked("brokenStarts", what -> Due.of(what).brokenStarts(0));
        notAsked("brokenStarts", what -> Due.of(what).brokenStarts(1));
        for (int k = -1; k <= 2; k++) {
            words.is("no council", new RulerWord().brokenStarts(k), -2);
        }
        words.is("what 2", x.brokenStarts(2), -2);
        for (int far : FAR) {
            words.is("what " + far, x.brokenStarts(far), -2);
        }
    }

    private interface Call {
        int of(String council);
    }

    private void notAsked(String name, Call call) {
        for (String council : NOT_ASKED) {
            words.is(council + ": " + name, call.of(council), -2);
        }
    }

    private void canBreak() {
        words.promise(25);
        words.says("CAN BREAK: how many sets (0), the least (1; NONE).");
        RulerWord x = Due.of("king;size 3;bound 3;phases 1");
        words.is("the empty set", x.canBreak(0), 1);
        words.is("it is the least", x.canBreak(1), 0);
        x = Due.of("queen;size 5;phases 2;false 4");
        words.is("none: how many", x.canBreak(0), 0);
        words.is("none: the least", x.canBreak(1), NONE);
        words.is("the false ones stay", x.rule(5), 16);
        words.says("-2: as broken() for one of these sets, N above 5, no such what.");
        x = Due.of("king;size 4;phases 2;false 3");
        words.is("12 are free", x.free(), 12);
        words.is("15 with another set", x.canBreak(0), -2);
        words.is("15 with another set", x.canBreak(1), -2);
        x = Due.of("king;size 4;phases 2;false 0");
        words.is("15 are free, 12 with another set", x.canBreak(0), -2);
        for (int n = 3; n <= 9; n++) {
            words.is("N " + n, Due.of("queen;size " + n + ";phases 1").canBreak(0), n <= 5 ? 0 : -2);
            words.is("N " + n, Due.of("queen;size " + n + ";phases 1").canBreak(1), n <= 5 ? NONE : -2);
        }
        x = Due.of("king;size 3;bound 3;phases 1");
        words.is("what 2", x.canBreak(2), -2);
        for (int far : FAR) {
            words.is("what " + far, x.canBreak(far), -2);
        }
        for (int k = -1; k <= 2; k++) {
            words.is("no council", new RulerWord().canBreak(k), -2);
        }
    }

    private void brokenPlan() {
        words.promise(26);
        words.says("The k-th byte of BROKEN as a PLAN (k NONE: how many).");
        RulerWord x = Due.of("king;size 3;bound 1;phases 1;false 0;starts 001");
        String want = "phase 0 round 0 from 0 to 1 1;phase 0 round 0 from 0 to 2 0;phase 0 round 1 from 0 to 1 1;"
            + "phase 0 round 1 from 0 to 2 0;phase 0 round 2 from 0 to 1 0;phase 0 round 2 from 0 to 2 0";
        words.is("how many", x.brokenPlan(NONE), want.length());
        for (int k = 0; k < want.length(); k++) {
            words.is("byte " + k, x.brokenPlan(k), want.charAt(k));
        }
        for (String council : ASKED) {
            RulerWord y = Due.of(council);
            words.is(council, y.brokenPlan(NONE), y.broken() == NONE ? NONE : y.free() == 0 ? 0 : y.free() * 30 - 1);
        }
        words.says("NONE: none is broken, no such one;");
        words.is("behind its end", x.brokenPlan(want.length()), NONE);
        words.is("k max", x.brokenPlan(Integer.MAX_VALUE), NONE);
        words.is("k -2", x.brokenPlan(-2), NONE);
        words.is("k min", x.brokenPlan(Integer.MIN_VALUE), NONE);
        RulerWord none = Due.of("queen;size 5;phases 2;false 0;starts 00111");
        for (int k = -2; k <= 1; k++) {
            words.is("none is broken: " + k, none.brokenPlan(k), NONE);
        }
        RulerWord empty = Due.of("king;size 3;bound 3;phases 1;starts 001");
        words.is("broken without a free letter: no byte", empty.brokenPlan(0), NONE);
        words.is("broken without a free letter: how many", empty.brokenPlan(NONE), 0);
        words.says("-2: as broken().");
        for (int k = -2; k <= 1; k++) {
            int which = k;
            words.is("no council", new RulerWord().brokenPlan(k), -2);
            notAsked("brokenPlan", what -> Due.of(what).brokenPlan(which));
        }
    }

    private void weakest() {
        words.promise(27);
        words.says("WEAKEST.");
        words.is("queens of 4, T 1", Due.of("queen;size 4;bound 1;phases 1;starts 1010").weakest(),
            weakestByHand("queen;size 4;bound 1;phases 1;starts 1010"));
        words.is("0 alone would break it", Due.of("queen;size 5;bound 1;phases 1;starts 10101").weakest(), 0);
        words.says("NONE: there is none such;");
        words.is("within the bound", Due.of("queen;size 5;phases 2;starts 00111").weakest(), NONE);
        words.is("nobody is asked", Due.of("king;size 3;phases 1;starts 001;false 12").weakest(), NONE);
        words.says("-2: no COUNCIL, more than 12 would be FREE with any of those that are asked (all are).");
        words.is("no council", new RulerWord().weakest(), -2);
        words.is("with each", Due.of("king;size 9;phases 6").weakest(), -2);
        words.is("15 with 0, 10 with others", Due.of("king;size 6;phases 1;starts 000111").weakest(), -2);
        words.is("12 with 0, 8 with others", Due.of("king;size 5;phases 1;starts 00111").weakest() == -2, false);
        words.is("15 with 0 and 1, 12 with 2 and 3", Due.of("king;size 4;bound 0;phases 2;starts 0011").weakest(), -2);
        words.is("2 of 3 with each are asked", Due.of("king;size 3;bound 1;phases 2;starts 001;false 2").weakest(), NONE);
    }

    private void held() {
        words.promise(29);
        words.says("What would be HELD by a PEER behind the last PHASE from the STARTS, if the FALSE ones sent these FREE LETTERS.");
        for (String council : ASKED) {
            RulerWord x = Due.of(council, "2", 1);
            int falses = x.rule(5);
            int starts = x.rule(4);
            for (int bits = 0; bits < 1 << x.free(); bits += 1 + bits / 7) {
                RulerWord y = saidByHand(council, falses, starts, bits);
                for (int i = 0; i < x.rule(1); i++) {
                    words.is(council + ": held(" + bits + ", " + i + ")", x.held(bits, i), y.peer(i, 0));
                }
            }
            int last = (1 << x.free()) - 1;
            RulerWord y = saidByHand(council, falses, starts, last);
            x.run();
            for (int i = 0; i < x.rule(1); i++) {
                words.is(council + ": all 1, behind another run", x.held(last, i), y.peer(i, 0));
            }
        }
        words.says("NONE: no such ones,");
        for (String council : ASKED) {
            RulerWord x = Due.of(council);
            words.is(council + ": too many bits", x.held(1 << x.free(), 0), NONE);
            words.is(council + ": no such peer", x.held(0, x.rule(1)), NONE);
            words.is(council + ": the last peer", x.held(0, x.rule(1) - 1) != NONE, true);
            for (int far : FAR) {
                words.is(council + ": held(0, " + far + ")", x.held(0, far), NONE);
                if (far < 0 || far > 4095) {
                    words.is(council + ": held(" + far + ", 0)", x.held(far, 0), NONE);
                }
            }
        }
        words.says("-2 as broken().");
        words.is("no council", new RulerWord().held(0, 0), -2);
        words.is("no council, no such ones", new RulerWord().held(-1, -1), -2);
        notAsked("held(0, 0)", what -> Due.of(what).held(0, 0));
        notAsked("held(-1, 0)", what -> Due.of(what).held(-1, 0));
        notAsked("held(0, 9)", what -> Due.of(what).held(0, 9));
    }

    private void needed() {
        words.promise(30);
        words.says("NEEDED.");
        RulerWord x = Due.of("queen;size 5;phases 1;false 0;starts 01100");
        words.is("the first ruler is false", x.needed(), 2);
        x.falseOnes(2);
        words.is("the first ruler is true", x.needed(), 1);
        words.is("P stays", x.rule(3), 1);
        words.says("NONE: there is none such, no COUNCIL.");
        words.is("no council", new RulerWord().needed(), NONE);
        words.is("none such", Due.of("king;size 3;bound 3;starts 001").needed(), NONE);
        words.is("not even one phase is asked", Due.of("king;size 6;phases 1;false 0").needed(), NONE);
        words.is("12 are free with 1 phase", Due.of("king;size 7;phases 6;false 123456").needed(), 1);
        words.is("13 are free with 1 phase", Due.of("king;size 7;phases 6;false 012345").needed(), NONE);
        words.is("more than 12 are free with P, not with 1", Due.of("king;size 4;phases 6;false 3;starts 0011").needed(), 1);
    }
}
