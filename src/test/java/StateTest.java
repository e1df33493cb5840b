/** Promises 17 to 21, 28, 33 and 38: when they are AGREED, LETTERS, RULERS, what can be looked at. */
public final class StateTest {
    private static final int NONE = RulerWord.NONE;
    private static final Due DUE = new Due("StateTest");
    /** N 3, T 1, FALSE 1: it rules PHASE 1, tells 0 a 0 there and thereby parts 0 from 2; PHASE 2 heals that. */
    private static final String PARTED = "queen;size 3;bound 1;phases 3;starts 111;false 1";
    private static final String PARTING = "phase 1 to 0 0";

    public static void main(String[] args) {
        promise17();
        promise18();
        promise19();
        promise20();
        promise21();
        promise28();
        promise33();
        promise38();
        DUE.end();
    }

    private static void promise17() {
        RulerWord x = new RulerWord();
        DUE.is("agreed() of no council", x.agreed(), NONE);
        x = Due.of(PARTED, PARTING, 1);
        DUE.is("starts don't count", x.agreed(), NONE);
        x.round();
        DUE.is("phase 0 isn't over", x.agreed(), NONE);
        x.round();
        DUE.is("behind phase 0", x.agreed(), 0);
        x.round();
        DUE.is("within phase 1", x.agreed(), 0);
        x.round();
        DUE.is("behind phase 1", x.agreed(), NONE);
        x.round();
        DUE.is("within phase 2", x.agreed(), NONE);
        x.round();
        DUE.is("behind phase 2", x.agreed(), 2);
        x.undo();
        DUE.is("undone", x.agreed(), NONE);
    }

    private static void states(RulerWord x, String when, int... want) {
        for (int k = 0; k < 4; k++) {
            DUE.is(when + ": state(" + k + ")", x.state(k), want[k]);
        }
    }

    private static void promise18() {
        RulerWord x = new RulerWord();
        states(x, "no council", NONE, NONE, NONE, NONE);
        x = Due.of(PARTED, PARTING, 1);
        DUE.is("state(4)", x.state(4), NONE);
        DUE.is("state(-1)", x.state(-1), NONE);
        states(x, "ahead", 1, 2, 1, 1);
        x.starts(5);
        states(x, "a false one's start is nothing", 1, 2, 1, 1);
        x.starts(2);
        states(x, "all true ones 0", 1, 0, 1, 1);
        x.starts(6);
        states(x, "parted starts", 0, 1, 0, 0);
        x.starts(7);
        x.round();
        states(x, "within phase 0", 1, 2, 1, 1);
        for (int k = 0; k < 3; k++) {
            x.round();
        }
        states(x, "behind phase 1", 0, 1, 0, 1);
        x.round();
        states(x, "within phase 2", 0, 1, 0, 1);
        x.round();
        states(x, "behind phase 2", 1, 2, 1, 1);
        x = Due.of("king;size 3;bound 0;phases 1;starts 111;false 0", "0", 1);
        x.run();
        states(x, "they hold what none began with", 1, 0, 0, 1);
        x = Due.of("king;size 3;bound 0;phases 1;starts 100;false 0", "1", 1);
        x.run();
        states(x, "they hold 1, with which only a false one began", 1, 2, 0, 1);
        x = Due.of("king;size 4;bound 1;phases 1;starts 1100");
        x.round();
        x.round();
        states(x, "within a phase of kings", 0, 2, 0, 0);
        x.round();
        states(x, "behind it", 1, 4, 1, 0);
    }

    private static void letters(RulerWord x, String when, int... want) {
        for (int k = 0; k < 4; k++) {
            DUE.is(when + ": letters(" + k + ")", x.letters(k), want[k]);
        }
    }

    private static void promise19() {
        RulerWord x = new RulerWord();
        letters(x, "no council", NONE, NONE, NONE, NONE);
        x = Due.of("king;size 4;phases 2;starts 0111;false 3", "round 0 to 0 2;to 3 2", 1);
        letters(x, "ahead", 0, 0, 54, 0);
        DUE.is("letters(4)", x.letters(4), NONE);
        DUE.is("letters(-1)", x.letters(-1), NONE);
        x.round();
        letters(x, "round 0: a 2 to 0, a 2 to itself", 11, 9, 54, 0);
        x.round();
        letters(x, "round 1: 0 and 3 offer 2", 17, 15, 54, 0);
        x.round();
        letters(x, "round 2", 20, 18, 54, 20);
        x.round();
        letters(x, "round 0 of phase 1", 31, 27, 54, 20);
        x.run();
        letters(x, "over", 20 + 11 + 12 + 3, 18 + 9 + 9 + 3, 54, 26);
        letters(Due.of("queen;size 9;phases 6"), "queens", 0, 0, 480, 0);
        letters(Due.of("king;size 9;phases 6"), "kings", 0, 0, 6 * 152, 0);
        letters(Due.of("king;size 3;phases 1"), "kings", 0, 0, 14, 0);
    }

    private static void promise20() {
        DUE.is("no council", new RulerWord().trueRuler(), NONE);
        DUE.is("0 is true", Due.of("king;size 3;false 12").trueRuler(), 0);
        DUE.is("0, 1 are false", Due.of("king;size 3;phases 6;false 01").trueRuler(), 2);
        DUE.is("too few phases", Due.of("king;size 3;phases 2;false 01").trueRuler(), NONE);
        DUE.is("0 to 4 are false", Due.of("queen;size 9;phases 6;false 01234").trueRuler(), 5);
        DUE.is("0 to 5 are false", Due.of("queen;size 9;phases 6;false 012345").trueRuler(), NONE);
    }

    private static void promise21() {
        RulerWord x = new RulerWord();
        for (int n = 1; n <= 100; n++) {
            int kings = x.greatest(0, n);
            int queens = x.greatest(1, n);
            DUE.is("more than 3 T of " + n, 3 * kings < n && 3 * (kings + 1) >= n, true);
            DUE.is("more than 4 T of " + n, 4 * queens < n && 4 * (queens + 1) >= n, true);
        }
        DUE.is("n 0", x.greatest(0, 0), NONE);
        DUE.is("n 101", x.greatest(1, 101), NONE);
        DUE.is("n -1", x.greatest(0, -1), NONE);
        DUE.is("form 2", x.greatest(2, 4), NONE);
        DUE.is("form -1", x.greatest(-1, 4), NONE);
    }

    private static void ruled(RulerWord x, int i, int... want) {
        for (int k = 0; k < 4; k++) {
            DUE.is("ruled(" + i + ", " + k + ")", x.ruled(i, k), want[k]);
        }
    }

    private static void promise28() {
        ruled(new RulerWord(), 0, NONE, NONE, NONE, NONE);
        RulerWord x = Due.of("queen;size 5;starts 01111;false 04", "round 1 to 2 2;round 1 0", 1);
        ruled(x, 0, 0, 0, 0, 0);
        x.round();
        ruled(x, 0, 0, 0, 0, 0);
        x.round();
        ruled(x, 0, 1, 0, 4, 3);
        ruled(x, 1, 0, 0, 0, 0);
        x.run();
        ruled(x, 1, 1, 0, 0, 4);
        ruled(x, 4, 0, 0, 0, 0);
        DUE.is("peer 5", x.ruled(5, 0), NONE);
        DUE.is("peer -1", x.ruled(-1, 0), NONE);
        DUE.is("what 4", x.ruled(0, 4), NONE);
        DUE.is("what -1", x.ruled(0, -1), NONE);
        x = Due.of("queen;size 3;bound 1;phases 4;starts 111;false 0", "phase 3 round 0 0;round 1 0", 1);
        x.run();
        ruled(x, 0, 2, 2, 2, 4);
        x = Due.of("queen;size 5;starts 00111;false 4");
        x.run();
        ruled(x, 0, 1, 4, 0, 4);
        ruled(x, 1, 1, 0, 0, 4);
    }

    private static void promise33() {
        RulerWord x = new RulerWord();
        DUE.is("no council", x.shown(0, -1), NONE);
        x = Due.of("queen;size 3;bound 1;phases 4;starts 111;false 0", "phase 3 round 1 0", 1);
        x.round();
        DUE.is("phase 0 isn't over", x.shown(0, -1), NONE);
        x.round();
        String first = "phase 0 ruler 0, x0=1!, 1=1!, 2=1!";
        DUE.is("shown(0)", Due.shown(x, 0), first);
        DUE.is("how many", x.shown(0, -1), first.length());
        DUE.is("behind its end", x.shown(0, first.length()), NONE);
        DUE.is("k -2", x.shown(0, -2), NONE);
        DUE.is("k min", x.shown(0, Integer.MIN_VALUE), NONE);
        DUE.is("phase -1", x.shown(-1, -1), NONE);
        DUE.is("phase 1", x.shown(1, 0), NONE);
        x.run();
        DUE.is("suspects now, so in phase 0, too", Due.shown(x, 0), "phase 0 ruler 0, x0=1!, 1=1!?, 2=1!?");
        DUE.is("shown(1)", Due.shown(x, 1), "phase 1 ruler 1, x0=1!, 1=1!, 2=1!");
        DUE.is("shown(3)", Due.shown(x, 3), "phase 3 ruler 0, x0=1!, 1=1!?, 2=1!?");
        x = Due.of("king;size 9;phases 6;false 0;starts 000001111", "0", 1);
        x.run();
        DUE.is("nine peers", Due.shown(x, 5),
            "phase 5 ruler 5, x0=0!, 1=0!, 2=0!, 3=0!, 4=0!, 5=0!, 6=0!, 7=0!, 8=0!");
    }

    private static void most(RulerWord x, String when, int... want) {
        for (int k = 0; k < 5; k++) {
            DUE.is(when + ": most(" + k + ")", x.most(k), want[k]);
        }
    }

    private static void promise38() {
        most(new RulerWord(), "no council", NONE, NONE, NONE, NONE, NONE);
        RulerWord x = Due.of(PARTED, PARTING, 1);
        most(x, "ahead", NONE, NONE, 0, 0, NONE);
        DUE.is("most(5)", x.most(5), NONE);
        DUE.is("most(-1)", x.most(-1), NONE);
        x.round();
        x.round();
        most(x, "behind phase 0", NONE, NONE, 0, 0, 0);
        x.round();
        x.round();
        most(x, "behind phase 1: 0 took 0", NONE, NONE, 1, 1, 1);
        x.run();
        most(x, "behind phase 2: all took 1", NONE, NONE, 2, 2, 2);
        x = Due.of("queen;size 9;bound 1;phases 4;starts 111111111;false 13", "round 1 to 0 1;round 1 0", 1);
        x.run();
        most(x, "1 and 3 are suspected by seven others", 2, 1, 0, 0, 0);
        DUE.is("whom 2 suspects", x.peer(2, 1), 10);
        DUE.is("whom 0 suspects", x.peer(0, 1), 0);
        DUE.is("whom 1, itself false, suspects", x.peer(1, 1), 8);
        x = Due.of("queen;size 9;bound 1;phases 4;starts 111111111;false 13",
            "phase 1 round 1 to 2 0;phase 3 round 1 0", 1);
        x.run();
        DUE.is("3 is suspected by most", x.most(1), 3);
        DUE.is("2 suspects both", x.most(0), 2);
        x = Due.of("queen;size 5;bound 1;phases 2;starts 11111;false 1", "round 1 to 0 0", 1);
        x.run();
        DUE.is("0 alone suspects", x.most(0), 0);
        DUE.is("1 alone is suspected", x.most(1), 1);
        DUE.is("by 0, which was firm", x.ruled(1, 2), 1);
        x = Due.of("queen;size 5;bound 1;phases 2;starts 11111;false 0", "round 1 to 4 0", 1);
        x.run();
        DUE.is("4 alone suspects", x.most(0), 4);
        DUE.is("0 alone is suspected", x.most(1), 0);
        x = Due.of("queen;size 5;bound 1;phases 2;starts 00111");
        x.run();
        most(x, "all took 1 in phase 0", NONE, NONE, 1, 2, 0);
    }
}
