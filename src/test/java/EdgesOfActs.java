import java.util.ArrayDeque;
import java.util.Deque;

/** The sentences on whole runs aside, ACTS, the IMAGE: of ==== 3. of the Terms, promises 31, 32, 34 to 37 and 39. */
final class EdgesOfActs {
    private static final int NONE = RulerWord.NONE;
    private static final int[] FAR = {Integer.MIN_VALUE, -1000000, -3, -2, -1, 9, 1000000, Integer.MAX_VALUE};
    private static final String COUNCIL = "queen;size 4;bound 1;phases 6;starts 0101;false 02;skip";
    private static final String[] RULES = {
        ";size 3;bound 0;phases 6;starts 011;false 02;skip",
        ";size 3;bound 1;phases 2;starts 001;false 0",
        ";size 4;bound 1;phases 4;starts 0110;false 0;skip",
        ";size 5;bound 2;phases 3;starts 01101;false 13",
        ";size 7;bound 1;phases 2;starts 0110100;false 0246",
        ";size 9;bound 4;phases 6;starts 011010011;false 01237;skip",
        ";size 3;bound 3;phases 2;starts 001",
        ";size 9;bound 0;phases 1;starts 111100000;false 8",
    };

    private final Words words;

    EdgesOfActs(Words words) {
        this.words = words;
    }

    void all() {
        words.section("Terms");
        othersTerms();
        chanceTerms();
        actsTerms();
        imageTerms();
        constants();
        asOthers();
        byChance();
        undo();
        image();
        back();
        status();
        count();
    }

    private static String otherForm(String form) {
        return form.equals("king") ? "queen" : "king";
    }

    // ---- ==== 3. ----

    private void othersTerms() {
        words.says("AS OTHERS: a whole run from the STARTS by the other FORM (N, T, P, skip, FALSE ones as they are), by the PLAN, draws "
            + "from the SEED on, without what was SAID.");
        for (String rules : RULES) {
            for (String form : new String[] {"king", "queen"}) {
                for (String plan : new String[] {"draw", "turn", "round 2 draw;round 1 split;phase 0 2;draw"}) {
                    RulerWord other = Due.of(otherForm(form) + rules, plan, -9);
                    other.run();
                    RulerWord x = Due.of(form + rules, plan, -9);
                    others(x, other, form + rules + " by " + plan + ", ahead");
                    for (int from = 0; from < x.rule(1); from++) {
                        x.say(0, 0, from, 1, 2);
                        x.say(0, 0, from, 2, 1);
                    }
                    others(x, other, form + rules + " by " + plan + ", said");
                    x.run();
                    others(x, other, form + rules + " by " + plan + ", behind all");
                }
            }
        }
        RulerWord x = Due.of("king;size 5;phases 2;false 0;starts 01011", "0", 3);
        x.starts(29);
        x.falseOnes(6);
        Due.tell(x, "draw");
        RulerWord other = Due.of("queen;size 5;bound 1;phases 2;false 12;starts 10111", "draw", 3);
        other.run();
        others(x, other, "other starts, false ones, plan; T stays 1");
    }

    private void others(RulerWord x, RulerWord other, String when) {
        words.is(when + ": asOthers(0)", x.asOthers(0), other.agreed());
        words.is(when + ": asOthers(1)", x.asOthers(1), other.letters(0));
        words.is(when + ": asOthers(2)", x.asOthers(2), Due.holds(other));
        words.is(when + ": asOthers(3)", x.asOthers(3), other.letters(2));
    }

    private void chanceTerms() {
        words.says("BY CHANCE of w: whole runs from the STARTS in which each LETTER that a FALSE one sends (oneself included) is a draw "
            + "(modulo 3), by SEEDS s, s and 1, .. (w of them, going round).");
        for (String rules : RULES) {
            for (String form : new String[] {"king", "queen"}) {
                for (long s : new long[] {0, -3, Long.MAX_VALUE - 4, Long.MIN_VALUE, 77}) {
                    chances(form + rules, 9, s);
                }
                chances(form + rules, 1, 5);
            }
        }
        chances("king" + RULES[1], 200, -100);
    }

    private void chances(String council, int w, long s) {
        int[] want = {0, 0, NONE, 0};
        for (int place = 0; place < w; place++) {
            RulerWord y = Due.of(council, "draw", s + place);
            y.run();
            want[1] += y.letters(0);
            if (y.state(0) == 1) {
                want[0]++;
                want[3] += y.state(1) > 0 ? 1 : 0;
            } else if (want[2] == NONE) {
                want[2] = place;
            }
        }
        RulerWord x = Due.of(council, "0;1", 1234);
        for (int from = 0; from < x.rule(1); from++) {
            x.say(0, 0, from, 0, 1);
        }
        for (int k = 0; k < 4; k++) {
            words.is(council + ": byChance(" + w + ", " + s + ", " + k + ")", x.byChance(w, s, k), want[k]);
        }
        x.run();
        for (int k = 0; k < 4; k++) {
            words.is(council + ", behind all: byChance(" + w + ", " + s + ", " + k + ")", x.byChance(w, s, k), want[k]);
        }
    }

    private void actsTerms() {
        words.says("ACTS: ROUNDS (each), SAID, other STARTS, FALSE ones told anew: the latest 20 can be UNDONE.");
        RulerWord x = Due.of(COUNCIL, "draw", 5);
        Deque<String> were = new ArrayDeque<>();
        for (int k = 0; k < 20; k++) {
            were.push(Due.everything(x));
            switch (k) {
                case 0, 5 -> x.starts(k + 3);
                case 1 -> x.falseOnes(6);
                case 2, 7 -> x.say(5, 0, 2, k % 4, 2);
                case 3 -> x.falseOnes(12);
                case 4 -> x.say(5, 0, 3, 0, 2);
                case 6 -> x.falseOnes(5);
                case 9, 12, 15 -> x.say(5, 1, 0, k % 4, k % 3);
                default -> x.round();
            }
            words.is("one act more", x.count(1), k + 1);
        }
        for (int k = 19; k >= 0; k--) {
            words.is("undone", x.undo(), k);
            words.is("all is as ahead of it", Due.everything(x), were.pop());
        }
        for (int many = 18; many <= 24; many++) {
            x = Due.of(COUNCIL, "draw", 5);
            for (int k = 0; k < many; k++) {
                x.starts(k % 16);
            }
            words.is(many + " acts", x.count(1), Math.min(many, 20));
            int undone = 0;
            while (undone < 50 && x.undo() != NONE) {
                undone++;
            }
            words.is(many + " acts: undone", undone, Math.min(many, 20));
            words.is("the starts ahead of these", x.rule(4), many <= 20 ? 10 : many - 21);
        }
        x = Due.of("king;size 4;phases 6;starts 1000", "", 5);
        for (int k = 0; k < 5; k++) {
            x.starts(k + 1);
        }
        words.is("18 rounds, each an act", x.run(), 18);
        words.is("20 of 23", x.count(1), 20);
        for (int k = 0; k < 20; k++) {
            x.undo();
        }
        words.is("three acts stay", x.rule(4), 3);
        words.is("ahead of all rounds", x.count(2), 0);
        words.is("none more", x.undo(), NONE);
    }

    private void imageTerms() {
        words.says("An IMAGE keeps STARTS, FALSE ones, SAID, all that was heard, held, the draws.");
        for (int gone = 0; gone <= 12; gone++) {
            RulerWord x = Due.of(COUNCIL, "draw", 5);
            x.starts(6);
            x.falseOnes(5);
            x.say(5, 0, 2, 1, 2);
            for (int k = 0; k < gone; k++) {
                x.round();
            }
            x.image();
            String then = Due.everything(x);
            x.say(5, 1, 0, 1, 2);
            x.undo();
            x.run();
            String later = Due.everything(x);
            while (x.undo() > 0) {
                x.count(1);
            }
            x.falseOnes(8);
            x.starts(1);
            x.say(0, 0, 3, 0, 0);
            x.run();
            words.is("back to " + gone, x.back(), gone);
            words.is("all it keeps", Due.everything(x), then);
            words.is("rounds that are left", x.run(), gone == 12 ? NONE : 12 - gone);
            words.is("what was said, the draws", Due.everything(x), later);
        }
    }

    private void constants() {
        words.says("The constants: `NONE = -1`: None; refused.");
        words.is("NONE", RulerWord.NONE, -1);
        words.says("`HIDDEN = -1000000`: Not told.");
        words.is("HIDDEN", RulerWord.HIDDEN, -1000000);
    }

    // ---- promises ----

    private void asOthers() {
        words.promise(31);
        words.says("AS OTHERS: 0 the first PHASE from which on they are AGREED (NONE: none),");
        RulerWord x = Due.of("queen;size 3;bound 3;phases 2;starts 001");
        words.is("kings with T 3 never are", x.asOthers(0), NONE);
        words.is("queens with T 3 are at once", Due.of("king;size 3;bound 3;phases 2;starts 001").asOthers(0), 0);
        words.says("1 LETTERS (as letters()), 2 who HOLDS 1 behind the last PHASE (bits; FALSE ones, too), 3 FORETOLD.");
        words.is("asOthers(1): all offer 0", x.asOthers(1), 28);
        words.is("asOthers(2)", x.asOthers(2), 4);
        words.is("asOthers(3)", x.asOthers(3), 28);
        x = Due.of("queen;size 4;bound 4;phases 1;starts 0101;false 13", "2", 1);
        words.is("two send 2, the others three each, twice, and the ruler", x.asOthers(1), 15);
        words.is("false ones hold 1, too", x.asOthers(2), 10);
        words.is("foretold all the same", x.asOthers(3), 27);
        words.is("nothing is sent by it", x.letters(0), 0);
        words.says("-2: no COUNCIL, no such what.");
        for (int k = -1; k <= 4; k++) {
            words.is("no council: asOthers(" + k + ")", new RulerWord().asOthers(k), -2);
        }
        words.is("asOthers(4)", x.asOthers(4), -2);
        for (int far : FAR) {
            words.is("asOthers(" + far + ")", x.asOthers(far), -2);
        }
    }

    private void byChance() {
        words.promise(32);
        words.says("BY CHANCE of w (1 to 200), s: 0 in how many they are AGREED behind the last PHASE, 1 LETTERS of all together,");
        RulerWord x = Due.of("queen;size 5;phases 2;starts 00111");
        for (int w = 1; w <= 200; w += 199) {
            words.is(w + " agreed", x.byChance(w, 3, 0), w);
            words.is(w + " times 48 letters", x.byChance(w, 3, 1), 48 * w);
        }
        RulerWord frozen = Due.of("king;size 3;bound 3;phases 1;starts 001");
        words.is("never agreed", frozen.byChance(200, 3, 0), 0);
        words.says("2 the first SEED's place (0 on) by which they aren't (NONE),");
        words.is("the first", frozen.byChance(200, 3, 2), 0);
        words.is("none", x.byChance(200, 3, 2), NONE);
        firstParted();
        words.says("3 in how many they HOLD 1.");
        words.is("all", x.byChance(200, 3, 3), 200);
        words.is("none", Due.of("queen;size 5;phases 2;starts 00011").byChance(200, 3, 3), 0);
        words.is("they aren't agreed", frozen.byChance(200, 3, 3), 0);
        words.is("a false one's is none of theirs", Due.of("king;size 3;bound 4;phases 1;starts 100;false 0").byChance(9, 3, 3), 0);
        words.is("a false one's is none of theirs", Due.of("king;size 3;bound 4;phases 1;starts 011;false 0").byChance(9, 3, 3), 9);
        words.says("-2: no COUNCIL, no such ones.");
        for (int k = -1; k <= 4; k++) {
            words.is("no council: what " + k, new RulerWord().byChance(1, 1, k), -2);
            words.is("w 0: what " + k, x.byChance(0, 1, k), -2);
            words.is("w 201: what " + k, x.byChance(201, 1, k), -2);
        }
        words.is("what 4", x.byChance(1, 1, 4), -2);
        for (int far : FAR) {
            words.is("what " + far, x.byChance(1, 1, far), -2);
            if (far != 9) {
                words.is("w " + far, x.byChance(far, 1, 0), -2);
            }
        }
        words.is("any seed will do", x.byChance(1, Long.MIN_VALUE, 0), 1);
    }

    /** From a SEED on by which they aren't AGREED, its place is told. */
    private void firstParted() {
        String council = "king" + RULES[1];
        RulerWord x = Due.of(council);
        int first = x.byChance(200, 0, 2);
        words.is("there is one", first > 0, true);
        words.is("place 0 from it on", x.byChance(1, first, 2), 0);
        words.is("place 1 from ahead of it", x.byChance(2, first - 1, 2), 1);
        words.is("none ahead of it", x.byChance(first, 0, 2), NONE);
        words.is("the last of w", x.byChance(first + 1, 0, 2), first);
    }

    private void undo() {
        words.promise(34);
        words.says("The latest ACT is UNDONE: how many still can be.");
        RulerWord x = Due.of(COUNCIL, "1", 5);
        x.starts(3);
        x.falseOnes(6);
        x.say(0, 0, 1, 0, 0);
        x.round();
        words.is("the round", x.undo(), 3);
        words.is("none is gone", x.count(2), 0);
        words.is("nothing heard", x.heard(0, 0, 1, 0), NONE);
        words.is("what was said", x.undo(), 2);
        words.is("nothing said", x.rule(11), 0);
        words.is("the false ones", x.undo(), 1);
        words.is("those that were", x.rule(5), 5);
        words.is("the starts", x.undo(), 0);
        words.is("those that were", x.rule(4), 10);
        words.is("they are held again", Due.holds(x), 10);
        words.says("NONE: none.");
        words.is("none more", x.undo(), NONE);
        words.is("none more, again", x.undo(), NONE);
        words.is("the plan stays", x.rule(10), 1);
        words.is("a new council", Due.of(COUNCIL).undo(), NONE);
        words.is("no council", new RulerWord().undo(), NONE);
        x.starts(16);
        x.falseOnes(15);
        x.say(9, 9, 9, 9, 9);
        x.image();
        words.is("what was refused, an image are none", x.undo(), NONE);
    }

    private void image() {
        words.promise(35);
        words.says("An IMAGE (instead of the one ahead): ROUNDS gone.");
        RulerWord x = Due.of(COUNCIL, "draw", 5);
        for (int gone = 0; gone <= 12; gone++) {
            words.is("image()", x.image(), gone);
            x.round();
        }
        x.undo();
        x.undo();
        words.is("image() behind two undone", x.image(), 10);
        x.run();
        words.is("the latest", x.back(), 10);
        words.says("NONE: no COUNCIL.");
        words.is("no council", new RulerWord().image(), NONE);
        RulerWord y = new RulerWord();
        y.image();
        words.is("it is none", y.back(), NONE);
    }

    private void back() {
        words.promise(36);
        words.says("All it keeps is so again (no ACT can be UNDONE then): ROUNDS gone.");
        RulerWord x = Due.of(COUNCIL, "draw", 5);
        x.starts(3);
        x.image();
        x.run();
        words.is("back()", x.back(), 0);
        words.is("starts", x.rule(4), 3);
        words.is("no act", x.count(1), 0);
        words.is("undo()", x.undo(), NONE);
        words.is("starts stay", x.rule(4), 3);
        words.is("back() twice", x.back(), 0);
        words.is("an act behind it", x.round(), 1);
        words.is("that one can be", x.undo(), 0);
        words.is("none more", x.undo(), NONE);
        x.run();
        words.is("the image is still there", x.back(), 0);
        words.is("the plan isn't of it", x.rule(10), 1);
        Due.tell(x, "1;1;1");
        x.back();
        words.is("the plan stays", x.rule(10), 3);
        words.says("NONE: no IMAGE.");
        words.is("no council", new RulerWord().back(), NONE);
        RulerWord y = Due.of(COUNCIL, "draw", 5);
        y.run();
        words.is("no image", y.back(), NONE);
        words.is("all stays", y.count(2), 12);
        words.is("the acts, too", y.count(1), 12);
        Due.feed(x, "king;size 3");
        x.council(1);
        words.is("none with another council", x.back(), NONE);
    }

    private void status() {
        words.promise(37);
        words.says("STATUS: how many of say(), starts(), falseOnes() were refused: 0 no COUNCIL, 1 no such ones, 2 not FALSE, 3 gone, 4 too "
            + "many; of several the first.");
        RulerWord x = new RulerWord();
        int[] want = new int[5];
        statuses(x, want);
        x.say(-1, 9, 9, 9, 9);
        x.starts(-1);
        x.falseOnes(-1);
        want[0] = 3;
        statuses(x, want);
        Due.feed(x, COUNCIL);
        x.council(1);
        statuses(x, want);
        x.starts(16);
        x.falseOnes(15);
        x.say(6, 0, 1, 0, 0);
        want[1] = 3;
        statuses(x, want);
        x.say(0, 0, 1, 0, 0);
        want[2] = 1;
        statuses(x, want);
        for (int k = 0; k < 31; k++) {
            x.say(1, 0, 2, 0, 0);
        }
        want[4] = 1;
        statuses(x, want);
        x.round();
        x.starts(0);
        x.falseOnes(0);
        x.say(0, 0, 0, 0, 0);
        want[3] = 3;
        statuses(x, want);
        x.say(0, 0, 1, 0, 3);
        x.starts(16);
        want[1] += 2;
        statuses(x, want);
        x.say(0, 0, 1, 0, 0);
        want[2]++;
        statuses(x, want);
        x.feed(0, 0, 0, 0, 0);
        x.round();
        x.council(1);
        x.plan();
        x.end(-1);
        x.undo();
        statuses(x, want);
        words.says("NONE: no such what.");
        words.is("status(5)", x.status(5), NONE);
        words.is("no council: status(5)", new RulerWord().status(5), NONE);
        for (int far : FAR) {
            words.is("status(" + far + ")", x.status(far), NONE);
        }
    }

    private void statuses(RulerWord x, int[] want) {
        for (int k = 0; k < 5; k++) {
            words.is("status(" + k + ")", x.status(k), want[k]);
        }
    }

    private void count() {
        words.promise(39);
        words.says("0 bytes of the TAPE, 1 ACTS that can be UNDONE, 2 ROUNDS gone.");
        RulerWord x = new RulerWord();
        for (int k = 0; k < 3; k++) {
            words.is("new: count(" + k + ")", x.count(k), 0);
        }
        for (int k = 0; k < 26; k++) {
            x.feed(-1, -1, -1, -1, -1);
        }
        words.is("a full tape", x.count(0), 520);
        x.end(0);
        words.is("an empty tape", x.count(0), 0);
        Due.feed(x, "king;size 3;phases 6");
        x.council(1);
        x.starts(1);
        x.starts(2);
        x.round();
        words.is("acts", x.count(1), 3);
        words.is("rounds", x.count(2), 1);
        x.run();
        words.is("20 at most", x.count(1), 20);
        words.is("all rounds", x.count(2), 18);
        words.says("NONE for others.");
        words.is("count(3)", x.count(3), NONE);
        words.is("new: count(3)", new RulerWord().count(3), NONE);
        for (int far : FAR) {
            words.is("count(" + far + ")", x.count(far), NONE);
        }
    }
}
