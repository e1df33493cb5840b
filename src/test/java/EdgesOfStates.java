/** The sentences on what is AGREED, sent, shown: of ==== 3. of the Terms, promises 17 to 21, 28, 33 and 38. */
final class EdgesOfStates {
    private static final int NONE = RulerWord.NONE;
    private static final int[] FAR = {Integer.MIN_VALUE, -1000000, -3, -2, -1, 9, 1000000, Integer.MAX_VALUE};
    /** N 3, T 1: FALSE 1 rules PHASE 1, tells 0 a 0 there and thereby parts 0 from 2; PHASE 2 heals that. */
    private static final String PARTED = "queen;size 3;bound 1;phases 3;starts 111;false 1";
    private static final String PARTING = "phase 1 to 0 0";
    /** All FIRM, whatever they hear: nobody ever changes, and who holds another one SUSPECTS the RULER. */
    private static final String FROZEN = "king;size 3;bound 3;phases 6;starts 110";

    private final Words words;

    EdgesOfStates(Words words) {
        this.words = words;
    }

    void all() {
        words.section("Terms");
        terms();
        shownTerms();
        agreed();
        state();
        letters();
        trueRuler();
        greatest();
        ruled();
        shown();
        mostSuspects();
        mostPhases();
    }

    /** Whole runs of many kinds: sizes, bounds, plans with draws. */
    private static RulerWord sample(int k) {
        int n = 3 + k % 7;
        int phases = 1 + k / 2 % 6;
        StringBuilder starts = new StringBuilder();
        StringBuilder falses = new StringBuilder();
        for (int i = 0; i < n; i++) {
            starts.append((k * 37 + i * i * 11 + k / 5 * i) / 3 % 2);
            falses.append(i < n - 1 && (k * 13 + i * 7 + k / 7) % 3 == 0 ? "" + i : "");
        }
        String[] plans = {"draw", "turn", "split", "round 0 draw;turn", "to 0 2;to 1 draw;split", "round 1 2;draw"};
        return Due.of((k % 2 == 0 ? "king" : "queen") + ";size " + n + ";bound " + k / 3 % 5 + ";phases " + phases + ";starts "
            + starts + (falses.length() == 0 ? "" : ";false " + falses) + (k % 3 == 0 ? ";skip" : ""), plans[k % 6], k);
    }

    /** Whether all TRUE ones held the same behind a PHASE, by what is told of each. */
    private static boolean alike(RulerWord x, int phase) {
        int ones = 0;
        int zeros = 0;
        for (int i = 0; i < x.rule(1); i++) {
            if (x.peer(i, 2) == 0) {
                ones += x.told(i, phase, 0);
                zeros += 1 - x.told(i, phase, 0);
            }
        }
        return ones == 0 || zeros == 0;
    }

    private void terms() {
        words.says("AGREED behind a PHASE: all TRUE ones HOLD the same.");
        RulerWord x = Due.of("king;size 4;bound 4;phases 1;starts 1101;false 2");
        x.run();
        words.is("a false one holds another one", x.told(2, 0, 0) * 2 + x.state(0), 1);
        x = Due.of("king;size 4;bound 4;phases 1;starts 1101;false 3");
        x.run();
        words.is("a true one holds another one", x.told(2, 0, 0) * 2 + x.state(0), 0);
        x = Due.of("king;size 4;bound 4;phases 1;starts 0100;false 023");
        x.run();
        words.is("a single true one", x.state(0), 1);
        words.says("LETTERS sent: those to oneself, and 2, don't count.");
        x = Due.of("queen;size 3;phases 1;starts 010;false 2");
        x.say(0, 0, 2, 2, 1);
        x.say(0, 0, 2, 1, 2);
        x.round();
        words.is("two of each, less one 2", x.letters(0), 5);
        x = Due.of("queen;size 3;phases 1;starts 010;false 2");
        x.say(0, 0, 2, 2, 2);
        x.round();
        words.is("a 2 to oneself is none less", x.letters(0), 6);
        x.round();
        words.is("the ruler's two", x.letters(0), 8);
        x = Due.of("king;size 4;bound 0;phases 1;starts 0101");
        x.round();
        x.round();
        words.is("true ones that offer 2", x.letters(0), 12);
        words.says("FORETOLD for a whole run in which nobody sends 2: of queens P (N N less 1), of kings P (2 N N less N less 1).");
        for (int n = 3; n <= 9; n++) {
            for (int phases = 1; phases <= 6; phases++) {
                x = Due.of("queen;size " + n + ";phases " + phases);
                words.is("queens", x.letters(2), phases * (n * n - 1));
                x.run();
                words.is("queens: as many are sent", x.letters(0), phases * (n * n - 1));
                x = Due.of("king;size " + n + ";phases " + phases);
                words.is("kings", x.letters(2), phases * (2 * n * n - n - 1));
                x.run();
                words.is("kings: as many are sent", x.letters(0), phases * (2 * n * n - n - 1));
            }
        }
    }

    private void shownTerms() {
        words.says("SHOWN of a PHASE that is over: \"phase \", its number, \" ruler \", that PEER, then for each PEER, by numbers: "
            + "\", \", \"x\" if it is FALSE, its number, \"=\", what it HOLDS behind it, then, each if so: \"!\" it was FIRM, \"<\" it took "
            + "the RULER's word, \"?\" it SUSPECTS the RULER (now).");
        RulerWord x = Due.of(FROZEN);
        x.run();
        words.is("ruler 4 modulo 3", Due.shown(x, 4), "phase 4 ruler 1, 0=1!, 1=1!, 2=0!?");
        words.is("phase 2", Due.shown(x, 2), "phase 2 ruler 2, 0=1!?, 1=1!?, 2=0!");
        for (int k = 0; k < 60; k++) {
            x = sample(k);
            x.run();
            for (int phase = 0; phase < x.rule(3); phase++) {
                words.is("sample " + k, Due.shown(x, phase), asTold(x, phase));
            }
        }
        x = Due.of("queen;size 3;bound 0;phases 4;starts 111;false 0", "phase 3 round 1 to 2 0", 1);
        x.round();
        x.round();
        words.is("nobody suspects yet", Due.shown(x, 0), "phase 0 ruler 0, x0=1!, 1=1!, 2=1!");
        x.run();
        words.is("now", Due.shown(x, 0), "phase 0 ruler 0, x0=1!, 1=1!, 2=1!?");
        x.undo();
        words.is("undone", Due.shown(x, 0), "phase 0 ruler 0, x0=1!, 1=1!, 2=1!");
    }

    private static String asTold(RulerWord x, int phase) {
        int ruler = phase % x.rule(1);
        StringBuilder s = new StringBuilder("phase " + phase + " ruler " + ruler);
        for (int i = 0; i < x.rule(1); i++) {
            s.append(", ").append(x.peer(i, 2) == 1 ? "x" : "").append(i).append("=").append(x.told(i, phase, 0));
            s.append(x.told(i, phase, 1) == 1 ? "!" : "").append(x.told(i, phase, 7) == 1 ? "<" : "");
            s.append((x.peer(i, 1) >> ruler & 1) == 1 ? "?" : "");
        }
        return s.toString();
    }

    // ---- promises ----

    private void agreed() {
        words.promise(17);
        words.says("The first PHASE that is over from which on they are AGREED.");
        for (int k = 0; k < 60; k++) {
            RulerWord x = sample(k);
            for (int gone = 0; gone <= x.rule(3) * x.rule(9); gone++) {
                int want = NONE;
                for (int phase = x.rule(7) - 1; phase >= 0 && alike(x, phase); phase--) {
                    want = phase;
                }
                words.is("sample " + k + " behind " + gone, x.agreed(), want);
                x.round();
            }
        }
        RulerWord x = Due.of(PARTED, PARTING, 1);
        int[] want = {NONE, NONE, 0, 0, NONE, NONE, 2};
        for (int gone = 0; gone <= 6; gone++) {
            words.is("parted in phase 1, behind " + gone, x.agreed(), want[gone]);
            x.round();
        }
        words.says("NONE: none yet, no COUNCIL.");
        words.is("no council", new RulerWord().agreed(), NONE);
        x = Due.of(FROZEN);
        x.run();
        words.is("never", x.agreed(), NONE);
        x = Due.of("king;size 3;phases 1");
        x.round();
        x.round();
        words.is("no phase is over", x.agreed(), NONE);
        x.round();
        words.is("phase 0 is", x.agreed(), 0);
        words.says("(STARTS don't count.)");
        words.is("starts alike", Due.of("king;size 3").agreed(), NONE);
    }

    private void states(RulerWord x, String when, int... want) {
        for (int k = 0; k < 4; k++) {
            words.is(when + ": state(" + k + ")", x.state(k), want[k]);
        }
    }

    private void state() {
        words.promise(18);
        words.says("Behind the latest PHASE that is over (ahead of any: the STARTS): 0 whether they are AGREED (1, 0), 1 how many "
            + "TRUE ones HOLD 1,");
        RulerWord x = Due.of("king;size 4;bound 1;phases 1;starts 0111;false 3");
        states(x, "ahead", 0, 2, 0, 0);
        x.round();
        x.round();
        words.is("0 holds 1 now", x.peer(0, 0), 1);
        states(x, "within phase 0: the starts", 0, 2, 0, 0);
        x.round();
        states(x, "behind phase 0", 1, 3, 1, 0);
        x = Due.of(PARTED, PARTING, 1);
        int[] agreed = {1, 1, 1, 1, 0, 0, 1};
        int[] ones = {2, 2, 2, 2, 1, 1, 2};
        for (int gone = 0; gone <= 6; gone++) {
            words.is("parted in phase 1, behind " + gone + ": state(0)", x.state(0), agreed[gone]);
            words.is("parted in phase 1, behind " + gone + ": state(1)", x.state(1), ones[gone]);
            x.round();
        }
        words.says("2 whether what they HOLD is the START of some TRUE one (1; 0: they aren't AGREED, or it is none's),");
        words.is("a start of both", x.state(2), 1);
        for (int start = 0; start < 8; start++) {
            for (int word = 0; word <= 1; word++) {
                x = Due.of("king;size 3;bound 0;phases 1;false 0", "round 2 " + word + ";round 1 2", 1);
                x.starts(start);
                int trues = start >> 1;
                words.is("ahead, starts " + start, x.state(2), trues == 0 || trues == 3 ? 1 : 0);
                x.run();
                boolean someone = word == 1 ? trues != 0 : trues != 3;
                words.is("starts " + start + ", they hold " + word, x.state(2), someone ? 1 : 0);
            }
        }
        x = Due.of(FROZEN);
        x.run();
        words.is("not agreed", x.state(2), 0);
        words.says("3 whether all TRUE ones' STARTS are alike (1, 0).");
        for (int start = 0; start < 8; start++) {
            x = Due.of("king;size 3;false 0");
            x.starts(start);
            words.is("starts " + start, x.state(3), start >> 1 == 0 || start >> 1 == 3 ? 1 : 0);
            x.run();
            words.is("starts " + start + ", behind all", x.state(3), start >> 1 == 0 || start >> 1 == 3 ? 1 : 0);
        }
        words.says("NONE: no COUNCIL, no such what.");
        states(new RulerWord(), "no council", NONE, NONE, NONE, NONE);
        words.is("state(4)", x.state(4), NONE);
        for (int far : FAR) {
            words.is("state(" + far + ")", x.state(far), NONE);
        }
    }

    private void letters() {
        words.promise(19);
        words.says("LETTERS sent so far (0), by TRUE ones alone (1), FORETOLD (2), those of the latest PHASE that is over (3; 0 without).");
        for (int k = 0; k < 60; k++) {
            RulerWord x = sample(k);
            int[] behind = new int[8];
            int all = 0;
            int trues = 0;
            for (int gone = 0; gone < x.rule(3) * x.rule(9); gone++) {
                words.is("sample " + k + ": letters(0)", x.letters(0), all);
                words.is("sample " + k + ": letters(1)", x.letters(1), trues);
                int over = gone / x.rule(9);
                words.is("sample " + k + ": letters(3)", x.letters(3), over > 0 ? behind[over - 1] : 0);
                x.round();
                int[] sent = sent(x, gone / x.rule(9), gone % x.rule(9));
                all += sent[0];
                trues += sent[1];
                behind[gone / x.rule(9)] += sent[0];
            }
            words.is("sample " + k + ": letters(3) at the end", x.letters(3), behind[x.rule(3) - 1]);
        }
        RulerWord x = Due.of("queen;size 9;phases 6;false 0", "2", 1);
        words.is("letters(2) whatever the plan", x.letters(2), 480);
        words.is("letters(3) without a phase", x.letters(3), 0);
        x.round();
        words.is("letters(3) within phase 0", x.letters(3), 0);
        x.round();
        words.is("letters(3) behind phase 0: eight senders to eight", x.letters(3), 64);
        words.says("NONE: no COUNCIL, no such what.");
        for (int k = 0; k < 5; k++) {
            words.is("no council: letters(" + k + ")", new RulerWord().letters(k), NONE);
        }
        words.is("letters(4)", x.letters(4), NONE);
        for (int far : FAR) {
            words.is("letters(" + far + ")", x.letters(far), NONE);
        }
    }

    /** The LETTERS of a ROUND that count, of all and of TRUE ones, by what was heard. */
    private static int[] sent(RulerWord x, int phase, int round) {
        int[] sums = new int[2];
        for (int from = 0; from < x.rule(1); from++) {
            for (int to = 0; to < x.rule(1); to++) {
                int letter = x.heard(phase, round, from, to);
                if (from != to && (letter == 0 || letter == 1)) {
                    sums[0]++;
                    sums[1] += x.peer(from, 2) == 0 ? 1 : 0;
                }
            }
        }
        return sums;
    }

    private void trueRuler() {
        words.promise(20);
        words.says("The first PHASE below P whose RULER is TRUE.");
        for (int phases = 1; phases <= 6; phases++) {
            for (int falses = 0; falses < 15; falses++) {
                RulerWord x = Due.of("queen;size 4;phases " + phases);
                x.falseOnes(falses);
                int want = Integer.numberOfTrailingZeros(~falses);
                words.is("P " + phases + ", false " + falses, x.trueRuler(), want < phases ? want : NONE);
            }
        }
        words.says("NONE: none, no COUNCIL.");
        words.is("no council", new RulerWord().trueRuler(), NONE);
        words.is("none", Due.of("king;size 3;phases 2;false 01").trueRuler(), NONE);
        words.is("one phase more", Due.of("king;size 3;phases 3;false 01").trueRuler(), 2);
        words.is("six false rulers", Due.of("king;size 9;phases 6;false 012345").trueRuler(), NONE);
        words.is("five false rulers", Due.of("king;size 9;phases 6;false 01234").trueRuler(), 5);
    }

    private void greatest() {
        words.promise(21);
        words.says("The greatest bound (0 on) with which a COUNCIL of n (1 to 100) holds: what FORM 0, 1.");
        RulerWord x = new RulerWord();
        int kings = 0;
        int queens = 0;
        for (int n = 1; n <= 100; n++) {
            kings += n > 3 * (kings + 1) ? 1 : 0;
            queens += n > 4 * (queens + 1) ? 1 : 0;
            words.is("greatest(0, " + n + ")", x.greatest(0, n), kings);
            words.is("greatest(1, " + n + ")", x.greatest(1, n), queens);
        }
        for (int n = 3; n <= 9; n++) {
            words.is("as without a bound", x.greatest(0, n), Due.of("king;size " + n).rule(2));
            words.is("as without a bound", x.greatest(1, n), Due.of("queen;size " + n).rule(2));
        }
        words.says("NONE: no such ones.");
        for (int form = -1; form <= 2; form++) {
            words.is("n 0", x.greatest(form, 0), NONE);
            words.is("n 101", x.greatest(form, 101), NONE);
            words.is("n -1", x.greatest(form, -1), NONE);
            words.is("n min", x.greatest(form, Integer.MIN_VALUE), NONE);
            words.is("n max", x.greatest(form, Integer.MAX_VALUE), NONE);
        }
        words.is("form 2", x.greatest(2, 10), NONE);
        for (int far : FAR) {
            words.is("form " + far, x.greatest(far, 10), NONE);
        }
    }

    private void ruled() {
        words.promise(28);
        words.says("Of a PEER as a RULER: 0 PHASES that are over that it ruled,");
        RulerWord x = Due.of("queen;size 4;phases 6");
        for (int gone = 0; gone <= 12; gone++) {
            for (int i = 0; i < 4; i++) {
                words.is(i + " behind " + gone, x.ruled(i, 0), (gone / 2 + 3 - i) / 4);
            }
            x.round();
        }
        words.says("1 how many times TRUE ones took its word in these, 2 how many times a FIRM one (FALSE ones, too; itself not) heard "
            + "another word from it than it held then, 3 LETTERS 0, 1 that it sent to others in their last ROUNDS.");
        for (int k = 0; k < 60; k++) {
            x = sample(k);
            for (int gone = 0; gone <= x.rule(3) * x.rule(9); gone++) {
                for (int i = 0; i < x.rule(1); i++) {
                    ruledAsTold(x, i, "sample " + k + " behind " + gone);
                }
                x.round();
            }
        }
        x = Due.of(FROZEN);
        x.run();
        words.is("2 is heard by two firm ones, twice", x.ruled(2, 2), 4);
        words.is("0 by one, twice", x.ruled(0, 2), 2);
        words.is("nobody took its word", x.ruled(0, 1), 0);
        words.is("letters to two others, twice", x.ruled(0, 3), 4);
        words.says("NONE: no such ones.");
        for (int k = 0; k <= 4; k++) {
            words.is("no council", new RulerWord().ruled(0, k), NONE);
            words.is("ruled(3, " + k + ")", x.ruled(3, k), NONE);
            words.is("ruled(" + k + ", 4)", x.ruled(k, 4), NONE);
        }
        for (int far : FAR) {
            words.is("ruled(" + far + ", 0)", x.ruled(far, 0), NONE);
            words.is("ruled(0, " + far + ")", x.ruled(0, far), NONE);
        }
    }

    private void ruledAsTold(RulerWord x, int ruler, String when) {
        int took = 0;
        int crossed = 0;
        int letters = 0;
        for (int phase = ruler; phase < x.rule(7); phase += x.rule(1)) {
            for (int i = 0; i < x.rule(1); i++) {
                int word = x.heard(phase, x.rule(9) - 1, ruler, i);
                took += x.peer(i, 2) == 0 ? x.told(i, phase, 7) : 0;
                crossed += i != ruler && x.told(i, phase, 1) == 1 && word != x.told(i, phase, 0) ? 1 : 0;
                letters += i != ruler && word != 2 ? 1 : 0;
            }
        }
        words.is(when + ": ruled(" + ruler + ", 1)", x.ruled(ruler, 1), took);
        words.is(when + ": ruled(" + ruler + ", 2)", x.ruled(ruler, 2), crossed);
        words.is(when + ": ruled(" + ruler + ", 3)", x.ruled(ruler, 3), letters);
    }

    private void shown() {
        words.promise(33);
        words.says("The k-th byte SHOWN of a PHASE (k NONE: how many).");
        RulerWord x = Due.of(FROZEN);
        x.run();
        String text = "phase 2 ruler 2, 0=1!?, 1=1!?, 2=0!";
        words.is("how many", x.shown(2, NONE), text.length());
        for (int k = 0; k < text.length(); k++) {
            words.is("shown(2, " + k + ")", x.shown(2, k), text.charAt(k));
        }
        words.says("NONE: no such ones.");
        words.is("behind its end", x.shown(2, text.length()), NONE);
        words.is("far behind it", x.shown(2, Integer.MAX_VALUE), NONE);
        words.is("k -2", x.shown(2, -2), NONE);
        words.is("k min", x.shown(2, Integer.MIN_VALUE), NONE);
        words.is("no council", new RulerWord().shown(0, NONE), NONE);
        words.is("no council", new RulerWord().shown(0, 0), NONE);
        for (int far : FAR) {
            words.is("phase " + far, x.shown(far, 0), NONE);
            words.is("phase " + far + ", how many", x.shown(far, NONE), NONE);
        }
        words.is("phase 6", x.shown(6, NONE), NONE);
        x.undo();
        words.is("phase 5 isn't over", x.shown(5, NONE), NONE);
        words.is("phase 4 is", x.shown(4, NONE), 34);
    }

    private void mostSuspects() {
        words.promise(38);
        words.says("0 the PEER that SUSPECTS most (of several the lowest; NONE: nobody does),");
        RulerWord x = Due.of("queen;size 9;bound 1;phases 4;starts 111111111;false 13", "round 1 to 0 1;round 1 0", 1);
        words.is("ahead nobody does", x.most(0), NONE);
        x.run();
        words.is("2 and others suspect both, 1 and 3 one", x.most(0), 2);
        x = Due.of("queen;size 9;bound 1;phases 4;starts 111111111;false 13", "round 1 to 8 0", 1);
        x.run();
        words.is("8 alone", x.most(0), 8);
        x = Due.of("queen;size 9;bound 1;phases 4;starts 111111111;false 13", "phase 1 round 1 to 0 0;phase 3 round 1 to 8 0", 1);
        x.run();
        words.is("0 one, 8 one", x.most(0), 0);
        x = Due.of("queen;size 5;bound 0;phases 2;starts 11111;false 01", "phase 0 round 1 to 1 0;phase 1 round 1 to 2 0", 1);
        x.run();
        words.is("a false one, too", x.most(0), 1);
        words.says("1 the one that is SUSPECTED by most (likewise),");
        words.is("1 and 0, by one each", x.most(1), 0);
        x = Due.of("queen;size 9;bound 1;phases 4;starts 111111111;false 13", "phase 1 round 1 to 2 0;phase 3 round 1 0", 1);
        words.is("ahead nobody is", x.most(1), NONE);
        x.run();
        words.is("3 by most", x.most(1), 3);
        x = Due.of("queen;size 9;bound 1;phases 6;starts 111111111;false 5", "round 1 to 7 0", 1);
        x.run();
        words.is("5 by one", x.most(1), 5);
    }

    private void mostPhases() {
        words.says("2 PHASES that are over in which a TRUE one wasn't FIRM,");
        for (int k = 0; k < 60; k++) {
            RulerWord x = sample(k);
            x.round();
            words.is("sample " + k + " within phase 0", x.most(2), 0);
            x.run();
            int many = 0;
            for (int phase = 0; phase < x.rule(3); phase++) {
                many += trues(x, phase, 1) < trues(x, NONE, 0) ? 1 : 0;
            }
            words.is("sample " + k, x.most(2), many);
        }
        words.says("3 times that a TRUE one HELD another one behind a PHASE than ahead of it,");
        for (int k = 0; k < 60; k++) {
            RulerWord x = sample(k);
            int many = 0;
            for (int phase = 0; phase < x.rule(3); phase++) {
                for (int round = 0; round < x.rule(9); round++) {
                    words.is("sample " + k + " ahead of phase " + phase + ", round " + round, x.most(3), many);
                    x.round();
                }
                for (int i = 0; i < x.rule(1); i++) {
                    int ahead = phase == 0 ? x.peer(i, 3) : x.told(i, phase - 1, 0);
                    many += x.peer(i, 2) == 0 && x.told(i, phase, 0) != ahead ? 1 : 0;
                }
            }
            words.is("sample " + k, x.most(3), many);
        }
        words.says("4 the PHASE in which most TRUE ones took the RULER's word (of several the first; NONE: none is over).");
        for (int k = 0; k < 60; k++) {
            RulerWord x = sample(k);
            words.is("sample " + k + ": none is over", x.most(4), NONE);
            x.run();
            int first = 0;
            for (int phase = 1; phase < x.rule(3); phase++) {
                first = trues(x, phase, 7) > trues(x, first, 7) ? phase : first;
            }
            words.is("sample " + k, x.most(4), first);
        }
        RulerWord x = Due.of(FROZEN);
        x.run();
        words.is("nobody ever took one: the first", x.most(4), 0);
        x = Due.of("queen;size 5;bound 1;phases 2;starts 11111;false 34",
            "phase 0 round 0 to 3 2;phase 0 round 0 to 4 2;phase 1 round 0 to 2 2;1", 1);
        x.run();
        words.is("3 and 4, both false, took it in phase 0", x.told(3, 0, 7) + x.told(4, 0, 7), 2);
        words.is("2 alone took it in phase 1", x.told(2, 1, 7) * 10 + x.told(3, 1, 7), 10);
        words.is("true ones count", x.most(4), 1);
        words.says("NONE: no COUNCIL, no such what.");
        for (int k = 0; k <= 5; k++) {
            words.is("no council: most(" + k + ")", new RulerWord().most(k), NONE);
        }
        words.is("most(5)", x.most(5), NONE);
        for (int far : FAR) {
            words.is("most(" + far + ")", x.most(far), NONE);
        }
    }

    /** Of how many TRUE ones told() answers 1; without a PHASE: how many there are. */
    private static int trues(RulerWord x, int phase, int what) {
        int many = 0;
        for (int i = 0; i < x.rule(1); i++) {
            boolean counts = phase == NONE || x.told(i, phase, what) == 1;
            many += x.peer(i, 2) == 0 && counts ? 1 : 0;
        }
        return many;
    }
}
