import java.math.BigInteger;

/** Promises 9 to 16: ROUNDS, what is told by hand, what was heard, counted, held. */
public final class RoundsTest {
    private static final int NONE = RulerWord.NONE;
    private static final Due DUE = new Due("RoundsTest");

    public static void main(String[] args) {
        promise9();
        promise10();
        kings();
        queens();
        boundsAboveTheSize();
        skipUnderQueens();
        skipUnderKings();
        lettersOfAPlan();
        draws();
        promise11();
        promise12();
        promise13();
        promise14();
        promise15();
        promise16();
        DUE.end();
    }

    private static void promise9() {
        RulerWord x = new RulerWord();
        DUE.is("round() of no council", x.round(), NONE);
        x = Due.of("queen;size 3;phases 2");
        for (int k = 1; k <= 4; k++) {
            DUE.is("round()", x.round(), k);
        }
        DUE.is("round() when it is over", x.round(), NONE);
        DUE.is("count(2)", x.count(2), 4);
        DUE.is("acts", x.count(1), 4);
    }

    private static void promise10() {
        RulerWord x = new RulerWord();
        DUE.is("run() of no council", x.run(), NONE);
        x = Due.of("king;size 3;phases 6");
        x.round();
        DUE.is("run() behind a round", x.run(), 17);
        DUE.is("run() when it is over", x.run(), NONE);
        DUE.is("gone", x.count(2), 18);
        DUE.is("each round is an act", x.count(1), 18);
        x.undo();
        DUE.is("run() behind an undo", x.run(), 1);
    }

    /** N 4, T 1: PEER 3 sends 0 to 0, 2 and 1 to 1, 3 in ROUND 0; 0 and 2 then see two of each. */
    private static void kings() {
        RulerWord x = Due.of("king;size 4;starts 0111;false 3", "round 0 split", 1);
        x.round();
        DUE.is("held behind round 0", Due.holds(x), 14);
        x.round();
        DUE.is("held behind round 1: two 1 are more than T", Due.holds(x), 15);
        x.round();
        int[][] want = {{1, 0, 2, 2, 2, 0, 2, 1}, {1, 0, 1, 3, 1, 0, 2, 1}, {1, 0, 2, 2, 2, 0, 2, 1},
            {1, 0, 1, 3, 1, 0, 2, 1}};
        for (int i = 0; i < 4; i++) {
            for (int k = 0; k < 8; k++) {
                DUE.is("told(" + i + ", 0, " + k + ")", x.told(i, 0, k), want[i][k]);
            }
        }
        DUE.is("letters: 2 don't count", x.letters(0), 12 + 6 + 3);
        DUE.is("letters of true ones", x.letters(1), 9 + 3 + 3);
        DUE.is("shown(0)", Due.shown(x, 0), "phase 0 ruler 0, 0=1<, 1=1<, 2=1<, x3=1<");
        x.run();
        DUE.is("shown(1)", Due.shown(x, 1), "phase 1 ruler 1, 0=1!, 1=1!, 2=1!, x3=1!");
        DUE.is("told(0, 1, 2)", x.told(0, 1, 2), 1);
        DUE.is("told(0, 1, 4)", x.told(0, 1, 4), 1);
        DUE.is("told(0, 1, 6)", x.told(0, 1, 6), 4);
    }

    /** N 5, T 1: four 1 are, twice, more than 7; the RULER 0 sends 0 and is SUSPECTED. */
    private static void queens() {
        RulerWord x = Due.of("queen;size 5;starts 01111;false 0", "round 1 0", 1);
        x.round();
        DUE.is("held behind round 0", Due.holds(x), 30);
        DUE.is("nobody suspects yet", x.most(1), NONE);
        x.round();
        DUE.is("held behind round 1", Due.holds(x), 31);
        DUE.is("shown(0)", Due.shown(x, 0), "phase 0 ruler 0, x0=1!, 1=1!?, 2=1!?, 3=1!?, 4=1!?");
        int[] want = {1, 1, 1, 4, 1, NONE, NONE, 0};
        for (int k = 0; k < 8; k++) {
            DUE.is("told(2, 0, " + k + ")", x.told(2, 0, k), want[k]);
        }
        DUE.is("a false one never suspects itself", x.peer(0, 1), 0);
        DUE.is("whom 4 suspects", x.peer(4, 1), 1);
        RulerWord y = Due.of("queen;size 5;starts 00111;bound 1");
        y.run();
        DUE.is("three of five aren't enough, the ruler leans to 1", Due.shown(y, 0),
            "phase 0 ruler 0, 0=1<, 1=1<, 2=1<, 3=1<, 4=1<");
        y = Due.of("queen;size 4;starts 0011;bound 0;phases 1");
        y.run();
        DUE.is("as often: 0", Due.shown(y, 0), "phase 0 ruler 0, 0=0<, 1=0<, 2=0<, 3=0<");
        y = Due.of("queen;size 3;starts 111;bound 0;phases 1;false 0", "round 1 2;turn", 1);
        y.run();
        DUE.is("two of three are firm; nothing is another word", Due.shown(y, 0),
            "phase 0 ruler 0, x0=1!, 1=1!?, 2=1!?");
        y = Due.of("queen;size 3;starts 111;bound 1;phases 1;false 0", "round 1 2;turn", 1);
        y.run();
        DUE.is("who isn't firm and hears nothing holds 0", Due.shown(y, 0), "phase 0 ruler 0, x0=0<, 1=0<, 2=0<");
    }

    /** With T of N or more nobody hears from more than T: all are FIRM and keep what they hold. */
    private static void boundsAboveTheSize() {
        RulerWord x = Due.of("king;size 3;bound 3;phases 1;starts 010");
        x.run();
        DUE.is("T 3 of N 3", Due.shown(x, 0), "phase 0 ruler 0, 0=0!, 1=1!?, 2=0!");
        DUE.is("of both: 0", x.told(1, 0, 4), 0);
        x = Due.of("king;size 4;bound 4;phases 1;starts 1000");
        x.run();
        DUE.is("T 4 of N 4", Due.shown(x, 0), "phase 0 ruler 0, 0=1!, 1=0!?, 2=0!?, 3=0!?");
        x = Due.of("king;size 3;bound 2;phases 1;starts 110");
        x.run();
        DUE.is("T 2 of N 3: both are enough, 0 is offered, by three", Due.shown(x, 0),
            "phase 0 ruler 0, 0=0!, 1=0!, 2=0!");
    }

    /** RULER 0 is found out in PHASE 0 and rules again in PHASE 3, where nobody is FIRM. */
    private static void skipUnderQueens() {
        String council = "queen;size 3;bound 1;phases 4;starts 111;false 0";
        String plan = "phase 3 round 0 0;round 1 0";
        RulerWord x = Due.of(council, plan, 1);
        x.run();
        DUE.is("shown(0)", Due.shown(x, 0), "phase 0 ruler 0, x0=1!, 1=1!?, 2=1!?");
        DUE.is("shown(3)", Due.shown(x, 3), "phase 3 ruler 0, x0=0<, 1=0<?, 2=0<?");
        DUE.is("agreed", x.agreed(), 0);
        DUE.is("0 is none's start", x.state(2), 0);
        DUE.is("ruled(0, 1)", x.ruled(0, 1), 2);
        x = Due.of(council + ";skip", plan, 1);
        x.run();
        DUE.is("shown(3) with skip", Due.shown(x, 3), "phase 3 ruler 0, x0=0<, 1=1?, 2=1?");
        DUE.is("1 is a start", x.state(2), 1);
        DUE.is("ruled(0, 1) with skip", x.ruled(0, 1), 0);
        DUE.is("told(1, 3, 7) with skip", x.told(1, 3, 7), 0);
    }

    private static void skipUnderKings() {
        String council = "king;size 3;bound 0;phases 4;starts 111;false 0";
        String plan = "phase 3 round 0 0;phase 3 round 1 2;round 2 0";
        RulerWord x = Due.of(council, plan, 1);
        x.run();
        DUE.is("shown(3)", Due.shown(x, 3), "phase 3 ruler 0, x0=0<, 1=0<?, 2=0<?");
        x = Due.of(council + ";skip", plan, 1);
        x.run();
        DUE.is("shown(3) with skip", Due.shown(x, 3), "phase 3 ruler 0, x0=0<, 1=1?, 2=1?");
        DUE.is("agreed with skip", x.agreed(), 0);
    }

    private static void lettersOfAPlan() {
        RulerWord x = Due.of("king;size 4;bound 1;phases 1;starts 0101;false 1",
            "round 0 to 2 2;round 0 to 3 0;round 0 split;round 1 turn;to 1 2", 1);
        x.round();
        int[] want = {0, 1, 2, 0};
        for (int to = 0; to < 4; to++) {
            DUE.is("round 0, the first line that agrees, to " + to, x.heard(0, 0, 1, to), want[to]);
            DUE.is("round 0, a true one, to " + to, x.heard(0, 0, 3, to), 1);
        }
        DUE.is("one 2 and one to oneself don't count", x.letters(0), 9 + 2);
        x.round();
        DUE.is("1 hears 0, 1, 0, 1: it offers 2, turned 2", x.heard(0, 1, 1, 0), 2);
        DUE.is("1 to itself", x.heard(0, 1, 1, 1), 2);
        DUE.is("3 hears three 0: it offers 0", x.heard(0, 1, 3, 0), 0);
        x = Due.of("queen;size 3;phases 2;starts 010;false 1", "from 1 turn", 1);
        x.run();
        DUE.is("turn of 1", x.heard(0, 0, 1, 0), 0);
        DUE.is("turn of what it leans to, 0", x.heard(1, 1, 1, 2), 1);
        x = Due.of("queen;size 3;phases 2;starts 010;false 1", "phase 1 0;round 1 0;from 0 0;to 0 same", 1);
        x.run();
        DUE.is("same", x.heard(0, 0, 1, 0), 1);
        DUE.is("no line: as a true one", x.heard(0, 0, 1, 2), 1);
    }

    /** The draws by plain numbers of any length. */
    private static void draws() {
        BigInteger mod = BigInteger.ONE.shiftLeft(64);
        BigInteger seed = BigInteger.valueOf(-5).mod(mod);
        int[] want = new int[40];
        for (int k = 0; k < want.length; k++) {
            seed = seed.multiply(new BigInteger("6364136223846793005")).add(new BigInteger("1442695040888963407"));
            seed = seed.mod(mod);
            want[k] = seed.shiftRight(33).mod(BigInteger.valueOf(3)).intValue();
        }
        RulerWord x = Due.of("queen;size 3;phases 3;false 12", "from 1 to 0 1;draw", -5);
        x.say(0, 0, 2, 1, 2);
        x.run();
        int k = 0;
        for (int phase = 0; phase < 3; phase++) {
            DUE.is("told by a line", x.heard(phase, 0, 1, 0), 1);
            DUE.is("a draw", x.heard(phase, 0, 1, 1), want[k++]);
            DUE.is("a draw", x.heard(phase, 0, 1, 2), want[k++]);
            DUE.is("a draw", x.heard(phase, 0, 2, 0), want[k++]);
            DUE.is("said, or a draw", x.heard(phase, 0, 2, 1), phase == 0 ? 2 : want[k++]);
            DUE.is("a draw to itself", x.heard(phase, 0, 2, 2), want[k++]);
            if (phase > 0) {
                DUE.is("ruler", x.heard(phase, 1, phase, 0), phase == 1 ? 1 : want[k++]);
                DUE.is("ruler", x.heard(phase, 1, phase, 1), want[k++]);
                DUE.is("ruler", x.heard(phase, 1, phase, 2), want[k++]);
            }
        }
    }

    private static void promise11() {
        RulerWord x = new RulerWord();
        DUE.is("say() of no council", x.say(9, 9, 9, 9, 9), NONE);
        DUE.is("status(0)", x.status(0), 1);
        x = Due.of("queen;size 4;phases 2;false 13", "0", 1);
        int[][] none = {{2, 0, 1, 0, 0}, {-1, 0, 1, 0, 0}, {0, 2, 1, 0, 0}, {0, -1, 1, 0, 0}, {0, 0, 4, 0, 0},
            {0, 0, -1, 0, 0}, {0, 0, 1, 4, 0}, {0, 0, 1, -1, 0}, {0, 0, 1, 0, 3}, {0, 0, 1, 0, -1}, {0, 0, 0, 0, 3}};
        for (int k = 0; k < none.length; k++) {
            int[] n = none[k];
            DUE.is("no such ones " + k, x.say(n[0], n[1], n[2], n[3], n[4]), NONE);
            DUE.is("status(1)", x.status(1), k + 1);
        }
        DUE.is("by a true one", x.say(0, 0, 2, 0, 0), NONE);
        DUE.is("status(2)", x.status(2), 1);
        DUE.is("said", x.say(0, 0, 1, 0, 1), 1);
        DUE.is("told again", x.say(0, 0, 1, 0, 2), 2);
        DUE.is("to itself", x.say(0, 0, 1, 1, 1), 3);
        DUE.is("not as the ruler", x.say(1, 1, 3, 0, 1), 4);
        DUE.is("as the ruler", x.say(1, 1, 1, 2, 1), 5);
        x.round();
        DUE.is("the latest counts", x.heard(0, 0, 1, 0), 2);
        DUE.is("to itself", x.heard(0, 0, 1, 1), 1);
        DUE.is("the plan for the others", x.heard(0, 0, 1, 2), 0);
        DUE.is("a round that is gone", x.say(0, 0, 1, 0, 1), NONE);
        DUE.is("gone, and by a true one", x.say(0, 0, 0, 0, 1), NONE);
        DUE.is("status(2) is the first", x.status(2), 2);
        DUE.is("status(3)", x.status(3), 1);
        for (int k = 6; k <= 30; k++) {
            DUE.is("say", x.say(0, 1, 1, 0, 1), k);
        }
        DUE.is("the 31st", x.say(0, 1, 1, 0, 1), NONE);
        DUE.is("status(4)", x.status(4), 1);
        DUE.is("the 31st, gone", x.say(0, 0, 1, 0, 1), NONE);
        DUE.is("status(3) is the first", x.status(3), 2);
        x.run();
        DUE.is("not the ruler: nobody sends that", x.heard(1, 1, 3, 0), NONE);
        DUE.is("said for the ruler", x.heard(1, 1, 1, 2), 1);
        DUE.is("rule(11)", x.rule(11), 30);
        justThat();
    }

    /** What is SAID is for just that PHASE, ROUND, sender and receiver. */
    private static void justThat() {
        for (int place = 0; place < 4 * 2 * 4 * 4; place++) {
            int phase = place / 32;
            int round = place / 16 % 2;
            int from = place / 4 % 4;
            RulerWord x = Due.of("queen;size 4;bound 0;phases 4;starts 0110;false 013");
            x.say(phase, round, from, place % 4, 2);
            x.run();
            boolean sends = x.peer(from, 2) == 1 && (round == 0 || from == phase % 4);
            for (int k = 0; k < 4 * 2 * 4 * 4; k++) {
                boolean two = x.heard(k / 32, k / 16 % 2, k / 4 % 4, k % 4) == 2;
                DUE.is("said at " + place + ", heard at " + k, two, sends && k == place);
            }
        }
    }

    private static void promise12() {
        RulerWord x = new RulerWord();
        DUE.is("starts() of no council", x.starts(-1), NONE);
        DUE.is("status(0)", x.status(0), 1);
        x = Due.of("queen;size 4;starts 1010");
        DUE.is("starts(15)", x.starts(15), 5);
        DUE.is("rule(4)", x.rule(4), 15);
        DUE.is("held", Due.holds(x), 15);
        DUE.is("starts(15) again", x.starts(15), 15);
        DUE.is("both are acts", x.count(1), 2);
        DUE.is("starts(16)", x.starts(16), NONE);
        DUE.is("starts(-1)", x.starts(-1), NONE);
        DUE.is("status(1)", x.status(1), 2);
        x.round();
        DUE.is("starts() too late", x.starts(0), NONE);
        DUE.is("status(3)", x.status(3), 1);
        DUE.is("starts(16) too late", x.starts(16), NONE);
        DUE.is("status(1) is the first", x.status(1), 3);
        DUE.is("they stay", x.rule(4), 15);
        x.undo();
        DUE.is("ahead again", x.starts(0), 15);
    }

    private static void promise13() {
        RulerWord x = new RulerWord();
        DUE.is("falseOnes() of no council", x.falseOnes(-1), NONE);
        DUE.is("status(0)", x.status(0), 1);
        x = Due.of("queen;size 4;false 03");
        x.say(0, 0, 0, 1, 1);
        x.say(0, 0, 3, 1, 2);
        x.say(0, 0, 0, 2, 2);
        DUE.is("falseOnes(3)", x.falseOnes(3), 9);
        DUE.is("what 3 said is gone", x.rule(11), 2);
        DUE.is("rule(5)", x.rule(5), 3);
        DUE.is("all of them", x.falseOnes(15), NONE);
        DUE.is("16", x.falseOnes(16), NONE);
        DUE.is("-1", x.falseOnes(-1), NONE);
        DUE.is("status(1)", x.status(1), 3);
        DUE.is("14", x.falseOnes(14), 3);
        DUE.is("what 0 said is gone", x.rule(11), 0);
        DUE.is("none", x.falseOnes(0), 14);
        DUE.is("9 again", x.falseOnes(9), 0);
        DUE.is("it doesn't come again", x.rule(11), 0);
        x.undo();
        x.undo();
        x.undo();
        DUE.is("undone: 3", x.rule(5), 3);
        DUE.is("undone: said", x.rule(11), 2);
        x.undo();
        DUE.is("undone: all that was said", x.rule(11), 3);
        x.round();
        DUE.is("said by 3", x.heard(0, 0, 3, 1), 2);
        DUE.is("said by 0", x.heard(0, 0, 0, 2), 2);
        DUE.is("too late", x.falseOnes(0), NONE);
        DUE.is("status(3)", x.status(3), 1);
        DUE.is("too late, all of them", x.falseOnes(15), NONE);
        DUE.is("status(1) is the first", x.status(1), 4);
        for (int gone = 0; gone < 9; gone++) {
            x = Due.of("king;size 9;phases 6;false 01234568");
            for (int k = 0; k < 24; k++) {
                x.say(k % 6, k % 3, k / 3, k * 7 % 9, k * 5 % 3);
            }
            x.falseOnes(511 - 128 - (1 << gone & ~128));
            DUE.is("without what " + gone + " said", x.rule(11), gone == 7 || gone == 8 ? 21 : 18);
        }
    }

    private static void promise14() {
        RulerWord x = Due.of("king;size 4;phases 2;starts 0111;false 3", "round 0 0;round 2 0", 1);
        x.run();
        x.undo();
        DUE.is("what 3 tells 2", x.heard(0, 0, 3, 2), 0);
        DUE.is("what 2 tells 3", x.heard(0, 0, 2, 3), 1);
        DUE.is("what 2 tells itself", x.heard(0, 0, 2, 2), 1);
        DUE.is("the ruler", x.heard(0, 2, 0, 3), 0);
        DUE.is("not the ruler", x.heard(0, 2, 1, 3), NONE);
        DUE.is("an undone round", x.heard(1, 2, 1, 3), NONE);
        DUE.is("phase 2", x.heard(2, 0, 1, 3), NONE);
        DUE.is("phase -1", x.heard(-1, 0, 1, 3), NONE);
        DUE.is("round 3", x.heard(0, 3, 1, 3), NONE);
        DUE.is("round -1", x.heard(1, -1, 1, 3), NONE);
        DUE.is("from 4", x.heard(0, 0, 4, 0), NONE);
        DUE.is("from -1", x.heard(0, 0, -1, 0), NONE);
        DUE.is("to 4", x.heard(0, 0, 0, 4), NONE);
        DUE.is("to -1", x.heard(0, 0, 0, -1), NONE);
        x = Due.of("queen;size 4;phases 2");
        x.run();
        DUE.is("round 2 of queens", x.heard(0, 2, 0, 0), NONE);
    }

    private static void promise15() {
        RulerWord x = Due.of("queen;size 5;starts 01111;false 0", "round 1 0", 1);
        DUE.is("holds its start", x.peer(1, 0), 1);
        x.run();
        DUE.is("holds", x.peer(0, 0), 1);
        DUE.is("suspects", x.peer(3, 1), 1);
        DUE.is("false", x.peer(0, 2), 1);
        DUE.is("true", x.peer(1, 2), 0);
        DUE.is("start of 0", x.peer(0, 3), 0);
        DUE.is("start of 1", x.peer(1, 3), 1);
        DUE.is("peer 5", x.peer(5, 0), NONE);
        DUE.is("peer -1", x.peer(-1, 0), NONE);
        DUE.is("what 4", x.peer(0, 4), NONE);
        DUE.is("what -1", x.peer(0, -1), NONE);
    }

    private static void promise16() {
        RulerWord x = Due.of("king;size 4;phases 2;starts 0111");
        x.run();
        x.undo();
        DUE.is("phase 0 is over", x.told(0, 0, 0), 1);
        DUE.is("phase 1 isn't", x.told(0, 1, 0), NONE);
        DUE.is("phase -1", x.told(0, -1, 0), NONE);
        DUE.is("phase 6", x.told(0, 6, 0), NONE);
        DUE.is("peer 4", x.told(4, 0, 0), NONE);
        DUE.is("peer -1", x.told(-1, 0, 0), NONE);
        DUE.is("what 8", x.told(0, 0, 8), NONE);
        DUE.is("what -1", x.told(0, 0, -1), NONE);
        DUE.is("no council", new RulerWord().told(0, 0, 0), NONE);
    }
}
