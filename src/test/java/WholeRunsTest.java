/** Promises 31 and 32: whole runs from the STARTS, held against COUNCILS that are convened and run for just that. */
public final class WholeRunsTest {
    private static final int NONE = RulerWord.NONE;
    private static final Due DUE = new Due("WholeRunsTest");
    private static final String[] RULES = {
        ";size 4;bound 1;phases 2;starts 0101;false 3",
        ";size 5;bound 1;phases 3;starts 01011;false 04;skip",
        ";size 3;bound 1;phases 6;starts 011;false 0;skip",
        ";size 9;bound 2;phases 4;starts 010110011;false 1278",
        ";size 9;bound 4;phases 6;starts 010110011",
        ";size 3;bound 0;phases 5;starts 100;false 12",
    };

    public static void main(String[] args) {
        for (String rules : RULES) {
            for (String plan : new String[] {"draw", "turn", "round 0 split;to 0 2;draw", "phase 1 2;round 1 draw"}) {
                promise31("king", "queen", rules, plan);
                promise31("queen", "king", rules, plan);
            }
            promise32("king" + rules);
            promise32("queen" + rules);
        }
        edges();
        knownChances();
        DUE.end();
    }

    private static void promise31(String form, String otherForm, String rules, String plan) {
        RulerWord other = Due.of(otherForm + rules, plan, 77);
        other.run();
        int[] want = {other.agreed(), other.letters(0), Due.holds(other), other.letters(2)};
        RulerWord x = Due.of(form + rules, plan, 77);
        RulerWord unasked = Due.of(form + rules, plan, 77);
        for (int step = 0; step < 3; step++) {
            String before = Due.everything(x);
            for (int k = 0; k < 4; k++) {
                DUE.is(form + rules + " by " + plan + ": asOthers(" + k + ")", x.asOthers(k), want[k]);
            }
            DUE.is(form + rules + ": nothing changes", Due.everything(x), before);
            for (int from = 0; from < x.rule(1) && step == 0; from++) {
                x.say(0, 0, from, 0, 2);
                unasked.say(0, 0, from, 0, 2);
            }
            x.round();
        }
        x.run();
        unasked.run();
        DUE.is("what is sent goes on as if nothing was asked", Due.everything(x), Due.everything(unasked));
    }

    private static void promise32(String council) {
        int w = 7;
        long seed = Long.MAX_VALUE - 3;
        int[] want = {0, 0, NONE, 0};
        for (int k = 0; k < w; k++) {
            RulerWord y = Due.of(council, "draw", seed + k);
            y.run();
            want[1] += y.letters(0);
            if (y.state(0) == 1) {
                want[0]++;
                want[3] += y.state(1) > 0 ? 1 : 0;
            } else if (want[2] == NONE) {
                want[2] = k;
            }
        }
        RulerWord x = Due.of(council, "2", 1);
        x.round();
        String before = Due.everything(x);
        for (int k = 0; k < 4; k++) {
            DUE.is(council + ": byChance(7, .., " + k + ")", x.byChance(w, seed, k), want[k]);
        }
        DUE.is(council + ": nothing changes", Due.everything(x), before);
    }

    private static void edges() {
        RulerWord x = new RulerWord();
        DUE.is("no council: asOthers(0)", x.asOthers(0), -2);
        DUE.is("no council: byChance(1, 1, 0)", x.byChance(1, 1, 0), -2);
        x = Due.of("king;size 4;false 3");
        DUE.is("asOthers(4)", x.asOthers(4), -2);
        DUE.is("asOthers(-1)", x.asOthers(-1), -2);
        DUE.is("byChance(0, 1, 0)", x.byChance(0, 1, 0), -2);
        DUE.is("byChance(-1, 1, 0)", x.byChance(-1, 1, 0), -2);
        DUE.is("byChance(201, 1, 0)", x.byChance(201, 1, 0), -2);
        DUE.is("byChance(1, 1, 4)", x.byChance(1, 1, 4), -2);
        DUE.is("byChance(1, 1, -1)", x.byChance(1, 1, -1), -2);
        DUE.is("byChance(1, 1, 0)", x.byChance(1, 1, 0), 1);
        DUE.is("byChance(200, 1, 0)", x.byChance(200, 1, 0), 200);
        DUE.is("byChance(200, 1, 2)", x.byChance(200, 1, 2), NONE);
        DUE.is("byChance(200, 1, 3)", x.byChance(200, 1, 3), 0);
    }

    /** With nobody FALSE no draw is asked: each run is the same. */
    private static void knownChances() {
        RulerWord x = Due.of("queen;size 5;phases 2;starts 00111");
        DUE.is("200 runs of 48 letters", x.byChance(200, -1, 1), 9600);
        DUE.is("they hold 1", x.byChance(200, -1, 3), 200);
        x = Due.of("king;size 3;bound 3;phases 1;starts 001");
        DUE.is("never agreed", x.byChance(5, 0, 0), 0);
        DUE.is("not by the first seed", x.byChance(5, 0, 2), 0);
    }
}
