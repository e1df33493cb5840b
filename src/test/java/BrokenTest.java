/** Promises 22 to 27, 29 and 30: rows of LETTERS that break a COUNCIL, tried one by one through held(). */
public final class BrokenTest {
    private static final int NONE = RulerWord.NONE;
    private static final Due DUE = new Due("BrokenTest");
    private static final String[] COUNCILS = {
        "king;size 3;bound 1;phases 1;false 0;starts 001",
        "king;size 3;bound 0;phases 2;false 1;starts 011",
        "king;size 3;bound 1;phases 1;false 12;starts 101",
        "king;size 3;bound 2;phases 2;false 2;starts 110",
        "king;size 4;starts 0111;false 3",
        "king;size 4;bound 1;phases 1;starts 0101;false 0",
        "king;size 4;bound 0;phases 1;starts 0101;false 12",
        "king;size 5;bound 1;phases 1;starts 00111;false 0",
        "king;size 5;bound 2;phases 1;starts 00111;false 34",
        "king;size 7;bound 2;phases 1;starts 0101010;false 3",
        "queen;size 3;bound 1;phases 4;starts 110;false 0;skip",
        "queen;size 3;bound 1;phases 4;starts 110;false 0",
        "queen;size 3;bound 1;phases 4;starts 000;false 0",
        "queen;size 3;bound 1;phases 4;starts 000;false 0;skip",
        "queen;size 3;bound 1;phases 4;starts 111;false 0;skip",
        "queen;size 3;bound 0;phases 5;starts 100;false 2;skip",
        "queen;size 4;bound 0;phases 3;starts 1100;false 1",
        "queen;size 4;bound 1;phases 2;starts 1100;false 01",
        "queen;size 5;phases 2;starts 11001;false 0",
        "queen;size 5;bound 0;phases 1;starts 11001;false 012",
        "queen;size 9;bound 2;phases 1;starts 111100000;false 4",
        "queen;size 9;bound 2;phases 1;starts 111100000",
        "king;size 3;bound 3;phases 1;starts 001",
    };

    public static void main(String[] args) {
        promise22();
        for (String council : COUNCILS) {
            promise23(council);
            promise24(council);
            promise26(council);
            promise30(council);
            promise27(council);
            promise25(council);
        }
        edges();
        withoutFreeLetters();
        withinTheBound();
        DUE.end();
    }

    private static void promise22() {
        DUE.is("no council", new RulerWord().free(), NONE);
        DUE.is("none false", Due.of("king;size 9").free(), 0);
        DUE.is("kings, 3 never rules", Due.of("king;size 4;phases 2;false 3").free(), 12);
        DUE.is("kings, 1 rules", Due.of("king;size 4;phases 2;false 1").free(), 15);
        DUE.is("kings, 0 rules twice", Due.of("king;size 3;phases 4;false 0").free(), 20);
        DUE.is("queens, 0 rules twice", Due.of("queen;size 3;phases 4;false 0").free(), 12);
        DUE.is("queens", Due.of("queen;size 9;phases 6;false 0123").free(), 6 * 20 + 4 * 5);
    }

    /** Whether the TRUE ones hold another one than one another, if these LETTERS are sent. */
    private static boolean parts(RulerWord x, int bits) {
        int ones = 0;
        int zeros = 0;
        for (int i = 0; i < x.rule(1); i++) {
            if (x.peer(i, 2) == 0) {
                ones += x.held(bits, i);
                zeros += 1 - x.held(bits, i);
            }
        }
        return ones > 0 && zeros > 0;
    }

    private static int leastByHand(RulerWord x) {
        for (int bits = 0; bits < 1 << x.free(); bits++) {
            if (parts(x, bits)) {
                return bits;
            }
        }
        return NONE;
    }

    private static void promise23(String council) {
        RulerWord x = Due.of(council);
        int due = leastByHand(x);
        DUE.is(council + ": broken()", x.broken(), due);
        String before = Due.everything(x);
        x.broken();
        DUE.is(council + ": nothing changes", Due.everything(x), before);
        Due.tell(x, "2");
        x.run();
        DUE.is(council + ": broken() from the starts", x.broken(), due);
    }

    private static void promise24(String council) {
        RulerWord x = Due.of(council);
        int many = 0;
        int least = NONE;
        for (int starts = 0; starts < 1 << x.rule(1); starts++) {
            RulerWord y = Due.of(council);
            y.starts(starts);
            if (y.broken() != NONE) {
                many++;
                least = least == NONE ? starts : least;
            }
        }
        DUE.is(council + ": brokenStarts(0)", x.brokenStarts(0), many);
        DUE.is(council + ": brokenStarts(1)", x.brokenStarts(1), least);
        DUE.is(council + ": brokenStarts(2)", x.brokenStarts(2), -2);
        DUE.is(council + ": brokenStarts(-1)", x.brokenStarts(-1), -2);
    }

    private static void promise25(String council) {
        RulerWord x = Due.of(council);
        int many = 0;
        int least = NONE;
        boolean asked = x.rule(1) <= 5;
        for (int set = 0; set < (1 << x.rule(1)) - 1; set++) {
            if (Integer.bitCount(set) == Integer.bitCount(x.rule(5))) {
                RulerWord y = Due.of(council);
                y.falseOnes(set);
                int starts = y.brokenStarts(0);
                asked &= starts != -2;
                if (starts > 0) {
                    many++;
                    least = least == NONE ? set : least;
                }
            }
        }
        DUE.is(council + ": canBreak(0)", x.canBreak(0), asked ? many : -2);
        DUE.is(council + ": canBreak(1)", x.canBreak(1), asked ? least : -2);
        DUE.is(council + ": canBreak(2)", x.canBreak(2), -2);
        DUE.is(council + ": canBreak(-1)", x.canBreak(-1), -2);
    }

    /** What is broken, told as a PLAN, breaks. */
    private static void promise26(String council) {
        RulerWord x = Due.of(council);
        int number = x.broken();
        if (number == NONE) {
            DUE.is(council + ": brokenPlan(-1)", x.brokenPlan(-1), NONE);
            DUE.is(council + ": brokenPlan(0)", x.brokenPlan(0), NONE);
            return;
        }
        String plan = Due.brokenPlan(x);
        int length = x.free() == 0 ? 0 : 30 * x.free() - 1;
        DUE.is(council + ": brokenPlan(-1)", x.brokenPlan(-1), length);
        DUE.is(council + ": brokenPlan(length)", x.brokenPlan(length), NONE);
        DUE.is(council + ": brokenPlan(-2)", x.brokenPlan(-2), NONE);
        Due.tell(x, plan);
        x.run();
        DUE.is(council + ": state(0) by it", x.state(0), 0);
        for (int i = 0; i < x.rule(1); i++) {
            DUE.is(council + ": held by " + i, x.held(number, i), x.peer(i, 0));
        }
    }

    private static void promise27(String council) {
        RulerWord x = Due.of(council);
        int all = (1 << x.rule(1)) - 1;
        int due = NONE;
        for (int i = x.rule(1) - 1; i >= 0 && due != -2; i--) {
            int set = x.rule(5) | 1 << i;
            if (set != x.rule(5) && set != all) {
                RulerWord y = Due.of(council);
                y.falseOnes(set);
                int number = y.broken();
                due = number == -2 ? -2 : number == NONE ? due : i;
            }
        }
        DUE.is(council + ": weakest()", x.weakest(), due);
    }

    private static void promise30(String council) {
        RulerWord x = Due.of(council);
        int due = NONE;
        for (int phases = 6; phases >= 1; phases--) {
            String other = council.replaceAll(";phases .", "") + ";phases " + phases;
            RulerWord y = Due.of(other);
            due = y.free() > 12 ? NONE : y.broken() == NONE ? phases : due;
        }
        DUE.is(council + ": needed()", x.needed(), due);
    }

    private static void edges() {
        RulerWord x = new RulerWord();
        DUE.is("no council: broken()", x.broken(), -2);
        DUE.is("no council: brokenStarts(0)", x.brokenStarts(0), -2);
        DUE.is("no council: canBreak(1)", x.canBreak(1), -2);
        DUE.is("no council: brokenPlan(0)", x.brokenPlan(0), -2);
        DUE.is("no council: weakest()", x.weakest(), -2);
        DUE.is("no council: held(0, 0)", x.held(0, 0), -2);
        DUE.is("no council: needed()", x.needed(), NONE);
        x = Due.of("king;size 4;phases 2;false 1");
        DUE.is("15 free: broken()", x.broken(), -2);
        DUE.is("15 free: brokenStarts(0)", x.brokenStarts(0), -2);
        DUE.is("15 free: brokenPlan(-1)", x.brokenPlan(-1), -2);
        DUE.is("15 free: brokenPlan(-5)", x.brokenPlan(-5), -2);
        DUE.is("15 free: held(0, 0)", x.held(0, 0), -2);
        DUE.is("15 free: held(0, 9)", x.held(0, 9), -2);
        DUE.is("15 free: weakest()", x.weakest(), -2);
        x = Due.of("king;size 4;phases 2;false 3");
        DUE.is("12 free: broken()", x.broken(), NONE);
        DUE.is("12 free, but 15 with another set", x.canBreak(0), -2);
        DUE.is("held(4095, 0): three 0 are enough", x.held(4095, 0), 0);
        DUE.is("held(4096, 0)", x.held(4096, 0), NONE);
        DUE.is("held(-1, 0)", x.held(-1, 0), NONE);
        DUE.is("held(0, 4)", x.held(0, 4), NONE);
        DUE.is("held(0, -1)", x.held(0, -1), NONE);
        x = Due.of("queen;size 6;phases 1");
        DUE.is("N 6: canBreak(0)", x.canBreak(0), -2);
        DUE.is("all are asked: 5 and 5 are free with 0, 5 with others", x.weakest(), weakestOf(x));
        x = Due.of("king;size 6;phases 1;starts 000111");
        DUE.is("all are asked: 15 would be free with 0, 10 with others", x.weakest(), -2);
        x = Due.of("king;size 3;phases 1;bound 1;starts 001;false 12");
        DUE.is("with 0 nobody would be true", x.weakest(), NONE);
        DUE.is("a single true one is never parted", x.broken(), NONE);
        x = Due.of("queen;size 3;bound 1;phases 1;starts 011");
        DUE.is("needed() is NONE where 12 are too few", Due.of("king;size 6;phases 1;false 0").needed(), NONE);
        DUE.is("nobody false", x.canBreak(0), 0);
        DUE.is("nobody false, the least", x.canBreak(1), NONE);
    }

    private static int weakestOf(RulerWord x) {
        for (int i = 0; i < x.rule(1); i++) {
            RulerWord y = Due.of("queen;size 6;phases 1;false " + i);
            if (y.broken() >= 0) {
                return i;
            }
        }
        return NONE;
    }

    /** T 3 of N 3: all keep what they hold, nobody needs to lie. */
    private static void withoutFreeLetters() {
        RulerWord x = Due.of("king;size 3;bound 3;starts 001");
        DUE.is("free()", x.free(), 0);
        DUE.is("broken()", x.broken(), 0);
        DUE.is("brokenPlan(-1)", x.brokenPlan(-1), 0);
        DUE.is("brokenPlan(0)", x.brokenPlan(0), NONE);
        DUE.is("brokenStarts(0)", x.brokenStarts(0), 6);
        DUE.is("brokenStarts(1)", x.brokenStarts(1), 1);
        DUE.is("canBreak(0)", x.canBreak(0), 1);
        DUE.is("canBreak(1)", x.canBreak(1), 0);
        DUE.is("needed()", x.needed(), NONE);
        DUE.is("held(0, 2)", x.held(0, 2), 1);
        DUE.is("held(1, 2)", x.held(1, 2), NONE);
    }

    /** As many FALSE ones as the bound allows, PHASES enough: nothing breaks. */
    private static void withinTheBound() {
        RulerWord x = Due.of("queen;size 5;phases 2;false 0");
        DUE.is("queens of 5, one false: brokenStarts(0)", x.brokenStarts(0), 0);
        DUE.is("queens of 5, one false: brokenStarts(1)", x.brokenStarts(1), NONE);
        DUE.is("queens of 5, one false: canBreak(0)", x.canBreak(0), 0);
        DUE.is("queens of 5, one false: canBreak(1)", x.canBreak(1), NONE);
        x = Due.of("king;size 4;phases 2;false 2");
        DUE.is("kings of 4, one false: brokenStarts(0)", x.brokenStarts(0), 0);
        x = Due.of("queen;size 5;phases 2;false 0;starts 01100");
        DUE.is("its ruler is false at first", x.needed(), 2);
        x.falseOnes(2);
        DUE.is("its ruler is true at once", x.needed(), 1);
    }
}
