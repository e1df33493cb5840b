import java.math.BigInteger;

/** The sentences on ROUNDS: ==== 2. of the Terms, promises 9 to 16. */
final class EdgesOfRounds {
    private static final int NONE = RulerWord.NONE;
    private static final int[] FAR = {Integer.MIN_VALUE, -1000000, -3, -2, -1, 9, 1000000, Integer.MAX_VALUE};

    private final Words words;

    EdgesOfRounds(Words words) {
        this.words = words;
    }

    void all() {
        words.section("Terms");
        who();
        kings();
        queens();
        suspects();
        skip();
        falseOnesSend();
        draws();
        round();
        run();
        say();
        starts();
        falseOnes();
        heard();
        peer();
        told();
    }

    // ---- ==== 2. ----

    private void who() {
        words.says("LETTERS: 0, 1, 2 (nothing).");
        RulerWord x = Due.of("queen;size 3;phases 1;false 2");
        for (int letter = -1; letter <= 3; letter++) {
            words.is("say " + letter, x.say(0, 0, 2, Math.abs(letter) % 3, letter) != NONE, letter >= 0 && letter <= 2);
        }
        x.round();
        for (int letter = 0; letter <= 2; letter++) {
            words.is("heard", x.heard(0, 0, 2, letter), letter);
        }
        words.says("TRUE PEERS: those that aren't FALSE.");
        x = Due.of("queen;size 5;phases 1;false 02;starts 11110");
        words.is("of 1, 3, 4 two hold 1", x.state(1), 2);
        words.is("0 is FALSE, 1 is TRUE", x.trueRuler(), NONE);
        words.is("peer(0, 2)", x.peer(0, 2), 1);
        words.is("peer(1, 2)", x.peer(1, 2), 0);
        words.says("FALSE ones hold and count like true ones, by what they hear, but send other LETTERS.");
        x = Due.of("queen;size 5;starts 01111;phases 1;false 0", "0", 1);
        x.run();
        words.is("it sends 0", x.heard(0, 1, 0, 4), 0);
        words.is("it hears four 1", x.told(0, 0, 3), 4);
        words.is("it leans to 1", x.told(0, 0, 4), 1);
        words.is("it is firm", x.told(0, 0, 1), 1);
        words.is("it holds 1", x.peer(0, 0), 1);
        words.says("PHASE K (from 0 on) has the RULER K modulo N.");
        for (int n = 3; n <= 9; n++) {
            x = Due.of("queen;size " + n + ";phases 6");
            x.run();
            for (int phase = 0; phase < 6; phase++) {
                for (int i = 0; i < n; i++) {
                    words.is("phase " + phase + " of " + n, x.heard(phase, 1, i, 0) != NONE, i == phase % n);
                }
            }
            words.is("shown", Due.shown(x, 5).substring(0, 15), "phase 5 ruler " + 5 % n);
        }
        words.says("Each ROUND: all its LETTERS are sent (also to oneself), by senders, then by receivers, then all hear them.");
        x = Due.of("king;size 4;phases 2;false 13", "draw", 5);
        x.run();
        int[] drawn = drawn(5, 100);
        int k = 0;
        for (int gone = 0; gone < 6; gone++) {
            for (int from = 1; from <= 3; from += 2) {
                for (int to = 0; to < 4 && (gone % 3 != 2 || from == gone / 3); to++) {
                    words.is("round " + gone + " from " + from, x.heard(gone / 3, gone % 3, from, to), drawn[k++]);
                }
            }
        }
        x = Due.of("king;size 3;bound 1;phases 1;starts 100");
        x.run();
        words.is("what 0 hears in a round doesn't change what it sends in it", x.heard(0, 0, 0, 2), 1);
        words.is("to itself, too", x.heard(0, 0, 0, 0), 1);
    }

    /** An object with one TRUE PEER, the last; what it hears is SAID: so many 0 and so many 1 of the others, then 2. */
    private static void hears(RulerWord x, int round, int zeros, int ones) {
        int n = x.rule(1);
        for (int from = 0; from < n - 1; from++) {
            x.say(0, round, from, n - 1, from < zeros ? 0 : from < zeros + ones ? 1 : 2);
        }
    }

    private static String alone(String form, int n, int bound, int start) {
        return form + ";size " + n + ";bound " + bound + ";phases 1;starts " + "0".repeat(n - 1) + start + ";false "
            + "01234567".substring(0, n - 1);
    }

    private void kings() {
        words.says("King, ROUND 0: each sends what it HOLDS; of 0, 1 the one it hears from N less T or more is what it OFFERS "
            + "(of both: 0), else 2.");
        for (int n = 3; n <= 9; n++) {
            for (int place = 0; place < 5 * 2; place++) {
                for (int zeros = 0; zeros < n; zeros++) {
                    for (int ones = 0; zeros + ones < n; ones++) {
                        offers(n, place / 2, place % 2, zeros, ones);
                    }
                }
            }
        }
        words.says("ROUND 1: each sends what it OFFERS; the one of 0, 1 that it hears more often (as often: 0), if from more "
            + "than T, is what it HOLDS then (else as it was); it is FIRM, if it hears that one from N less T or more.");
        for (int n = 3; n <= 9; n++) {
            for (int place = 0; place < 5 * 2 * 3; place++) {
                for (int zeros = 0; zeros < n; zeros++) {
                    for (int ones = 0; zeros + ones < n; ones++) {
                        kingHolds(n, place / 6, place / 3 % 2, place % 3, zeros, ones);
                    }
                }
            }
        }
        words.says("ROUND 2: the RULER sends what it HOLDS; who isn't FIRM holds it (2: holds 0).");
        for (int word = 0; word <= 2; word++) {
            RulerWord x = Due.of(alone("king", 4, 1, 1));
            hears(x, 0, 1, 1);
            hears(x, 1, 1, 2);
            x.say(0, 2, 0, 3, word);
            x.run();
            words.is("two 1 of four aren't enough", x.told(3, 0, 1), 0);
            words.is("it holds the ruler's", x.peer(3, 0), word == 1 ? 1 : 0);
            words.is("it took it", x.told(3, 0, 7), 1);
            x = Due.of(alone("king", 4, 1, 1));
            hears(x, 0, 0, 3);
            hears(x, 1, 1, 2);
            x.say(0, 2, 0, 3, word);
            x.run();
            words.is("three 1 of four are", x.told(3, 0, 1), 1);
            words.is("it keeps its own", x.peer(3, 0), 1);
            words.is("it didn't take it", x.told(3, 0, 7), 0);
        }
        RulerWord x = Due.of("king;size 4;starts 1100;bound 1;phases 2;false 2", "round 1 2", 1);
        x.run();
        words.is("the ruler 0 holds 1", x.heard(0, 2, 0, 3), 1);
        words.is("who wasn't firm holds 1", x.told(3, 0, 0), 1);
    }

    private void offers(int n, int bound, int start, int zeros, int ones) {
        RulerWord x = Due.of(alone("king", n, bound, start));
        hears(x, 0, zeros, ones);
        x.run();
        int allZeros = zeros + 1 - start;
        int allOnes = ones + start;
        int want = allZeros >= n - bound ? 0 : allOnes >= n - bound ? 1 : 2;
        String when = "N " + n + ", T " + bound + ", 0 from " + allZeros + ", 1 from " + allOnes;
        words.is(when + ": offers", x.told(n - 1, 0, 4), want);
        words.is(when + ": sends it", x.heard(0, 1, n - 1, 0), want);
        words.is(when + ": sends what it holds", x.heard(0, 0, n - 1, 0), start);
        words.is(when + ": counts 0", x.told(n - 1, 0, 2), allZeros);
        words.is(when + ": counts 1", x.told(n - 1, 0, 3), allOnes);
    }

    /** All others send told in ROUND 0. */
    private void kingHolds(int n, int bound, int start, int told, int zeros, int ones) {
        RulerWord x = Due.of(alone("king", n, bound, start));
        hears(x, 0, told == 0 ? n - 1 : 0, told == 1 ? n - 1 : 0);
        hears(x, 1, zeros, ones);
        x.round();
        x.round();
        int zeros0 = (told == 0 ? n - 1 : 0) + 1 - start;
        int ones0 = (told == 1 ? n - 1 : 0) + start;
        int offer = zeros0 >= n - bound ? 0 : ones0 >= n - bound ? 1 : 2;
        int allZeros = zeros + (offer == 0 ? 1 : 0);
        int allOnes = ones + (offer == 1 ? 1 : 0);
        int top = allOnes > allZeros ? 1 : 0;
        int from = top == 1 ? allOnes : allZeros;
        int want = from > bound ? top : start;
        String when = "N " + n + ", T " + bound + ", held " + start + ", 0 from " + allZeros + ", 1 from " + allOnes;
        words.is(when + ": holds", x.peer(n - 1, 0), want);
        x.round();
        words.is(when + ": firm", x.told(n - 1, 0, 1), from >= n - bound ? 1 : 0);
        words.is(when + ": counts 0", x.told(n - 1, 0, 5), allZeros);
        words.is(when + ": counts 1", x.told(n - 1, 0, 6), allOnes);
    }

    private void queens() {
        words.says("Queen, ROUND 0: each sends what it HOLDS; it LEANS to the one of 0, 1 that it hears more often (as often: 0); "
            + "it is FIRM, if it hears that from PEERS that are, twice, more than N and twice T.");
        for (int n = 3; n <= 9; n++) {
            for (int place = 0; place < 5 * 2; place++) {
                for (int zeros = 0; zeros < n; zeros++) {
                    for (int ones = 0; zeros + ones < n; ones++) {
                        queenLeans(n, place / 2, place % 2, zeros, ones);
                    }
                }
            }
        }
        words.says("ROUND 1: the RULER sends that to which it LEANS; who is FIRM holds that to which it LEANS itself, else that "
            + "which it hears (2: 0).");
        for (int word = 0; word <= 2; word++) {
            RulerWord x = Due.of(alone("queen", 4, 1, 1));
            hears(x, 0, 1, 2);
            x.say(0, 1, 0, 3, word);
            x.round();
            words.is("it still holds its start", x.peer(3, 0), 1);
            x.round();
            words.is("three 1 of four aren't, twice, more than 6", x.told(3, 0, 1), 0);
            words.is("it holds what it hears", x.peer(3, 0), word == 1 ? 1 : 0);
            x = Due.of(alone("queen", 4, 1, 0).replace("starts 0000", "starts 0001"));
            hears(x, 0, 0, 3);
            x.say(0, 1, 0, 3, word);
            x.run();
            words.is("four 1 are", x.told(3, 0, 1), 1);
            words.is("it holds that to which it leans", x.peer(3, 0), 1);
        }
        RulerWord x = Due.of("queen;size 5;starts 01110;bound 1;phases 1");
        x.run();
        words.is("the ruler held 0, it leans to 1", x.heard(0, 1, 0, 4), 1);
        words.is("who isn't firm holds 1", x.peer(4, 0), 1);
    }

    private void queenLeans(int n, int bound, int start, int zeros, int ones) {
        RulerWord x = Due.of(alone("queen", n, bound, start));
        hears(x, 0, zeros, ones);
        x.run();
        int allZeros = zeros + 1 - start;
        int allOnes = ones + start;
        int top = allOnes > allZeros ? 1 : 0;
        int from = Math.max(allZeros, allOnes);
        String when = "N " + n + ", T " + bound + ", 0 from " + allZeros + ", 1 from " + allOnes;
        words.is(when + ": sends what it holds", x.heard(0, 0, n - 1, 0), start);
        words.is(when + ": leans to", x.told(n - 1, 0, 4), top);
        words.is(when + ": firm", x.told(n - 1, 0, 1), 2 * from > n + 2 * bound ? 1 : 0);
        words.is(when + ": counts 0", x.told(n - 1, 0, 2), allZeros);
        words.is(when + ": counts 1", x.told(n - 1, 0, 3), allOnes);
    }

    private void suspects() {
        words.says("SUSPECTS: who is FIRM and hears another word (also 2) than what it holds then from the RULER SUSPECTS it from "
            + "then on (a FALSE one, too; oneself never).");
        for (int word = 0; word <= 2; word++) {
            for (int own = 0; own <= 1; own++) {
                RulerWord x = Due.of("queen;size 5;bound 1;phases 2;false 04;starts " + (own + "").repeat(5));
                for (int to = 0; to < 5; to++) {
                    x.say(0, 1, 0, to, word);
                }
                x.round();
                words.is("not yet", x.peer(1, 1), 0);
                x.round();
                int want = word == own ? 0 : 1;
                words.is("queens, own " + own + ", heard " + word, x.peer(1, 1), want);
                words.is("a false one, too", x.peer(4, 1), want);
                words.is("oneself never", x.peer(0, 1), 0);
                x.run();
                words.is("from then on", x.peer(1, 1), want);
                x = Due.of("king;size 4;bound 1;phases 2;false 03;starts " + (own + "").repeat(4));
                for (int to = 0; to < 4; to++) {
                    x.say(0, 2, 0, to, word);
                }
                x.round();
                x.round();
                words.is("not yet", x.peer(1, 1), 0);
                x.round();
                words.is("kings, own " + own + ", heard " + word, x.peer(1, 1), want);
                words.is("a false one, too", x.peer(3, 1), want);
                words.is("oneself never", x.peer(0, 1), 0);
                x.run();
                words.is("from then on", x.peer(1, 1), want);
                x = Due.of("queen;size 5;bound 2;phases 1;false 0;starts " + (own + "").repeat(5), "round 0 2;" + word, 1);
                x.run();
                words.is("who isn't firm doesn't", x.peer(1, 1), 0);
            }
        }
        RulerWord x = Due.of("king;size 3;bound 3;phases 1;starts 100");
        x.run();
        words.is("a true one is suspected, too: 1 holds 0 then, hears 1", x.peer(1, 1), 1);
    }

    private void skip() {
        words.says("With skip: who isn't FIRM and SUSPECTS the RULER takes no word of it: king: holds what it held, queen: that to "
            + "which it LEANS.");
        for (String skip : new String[] {"", ";skip"}) {
            boolean skips = !skip.isEmpty();
            RulerWord x = Due.of("king;size 3;bound 0;phases 5;starts 111;false 0" + skip, "phase 3 round 0 0;phase 3 round 1 2;"
                + "round 2 to 2 1;round 2 0", 1);
            x.run();
            words.is("king 0 is suspected by 1 alone", x.peer(1, 1) * 8 + x.peer(2, 1), 8);
            words.is("king's 1, not firm in phase 3", x.told(1, 3, 1), 0);
            words.is("king's 1 holds", x.told(1, 3, 0), skips ? 1 : 0);
            words.is("king's 1 took", x.told(1, 3, 7), skips ? 0 : 1);
            words.is("king's 2, that doesn't suspect, took", x.told(2, 3, 7), 1);
            words.is("king 0 itself took", x.told(0, 3, 7), 1);
            x = Due.of("queen;size 3;bound 1;phases 5;starts 111;false 0" + skip, "phase 3 round 0 2;phase 4 round 0 2;"
                + "round 1 to 2 1;round 1 0", 1);
            x.run();
            words.is("queen 0 is suspected by 1 alone", x.peer(1, 1) * 8 + x.peer(2, 1), 8);
            words.is("queen's 1 leans to 1 in phase 3", x.told(1, 3, 4), 1);
            words.is("queen's 1 holds", x.told(1, 3, 0), skips ? 1 : 0);
            words.is("queen's 1 took", x.told(1, 3, 7), skips ? 0 : 1);
            words.is("queen's 2, that doesn't suspect, took", x.told(2, 3, 7), 1);
            words.is("another ruler's word is taken", x.told(1, 4, 7), 1);
        }
        RulerWord x = Due.of("queen;size 3;bound 0;phases 4;starts 111;false 0;skip", "phase 3 round 0 to 1 0;phase 3 round 0 2;"
            + "round 1 0", 1);
        x.run();
        words.is("who is firm and suspects it holds its own", x.told(1, 3, 0), 1);
        x = Due.of("queen;size 3;bound 1;phases 4;starts 111;false 01;skip", "phase 3 round 0 from 0 0;phase 3 round 0 to 2 0;"
            + "phase 3 round 1 1;phase 0 round 1 0", 1);
        x.run();
        words.is("2 suspects queen 0", x.peer(2, 1), 1);
        words.is("2 leans to 0, holds 1 ahead", x.told(2, 2, 0) * 2 + x.told(2, 3, 4), 2);
        words.is("not firm", x.told(2, 3, 1), 0);
        words.is("2 holds that to which it leans, not what it held, nor the ruler's 1", x.told(2, 3, 0), 0);
    }

    private void falseOnesSend() {
        words.says("What a TRUE one sends is told above.");
        RulerWord x = Due.of("queen;size 4;phases 1;starts 0101;false 3", "0;draw", 1);
        x.run();
        words.is("the plan isn't for true ones", x.heard(0, 0, 1, 2), 1);
        words.is("nor can it be said for them", x.say(0, 1, 0, 0, 1), NONE);
        words.says("What a FALSE one sends in a PHASE, ROUND, to a receiver: what was SAID by hand for just that (the latest),");
        x = Due.of("queen;size 4;phases 2;starts 0001;false 23", "0", 1);
        x.say(0, 0, 3, 1, 1);
        x.say(0, 0, 3, 1, 2);
        x.run();
        for (int place = 0; place < 16; place++) {
            int from = 2 + place / 4 % 2;
            int want = place == 5 ? 2 : 0;
            words.is("said for just that: " + place, x.heard(place / 8, 0, from, place % 4), want);
        }
        x = Due.of("queen;size 4;phases 2;starts 0001;false 23", "0", 1);
        x.say(0, 0, 3, 1, 2);
        x.say(1, 0, 3, 1, 2);
        x.say(0, 0, 3, 1, 1);
        x.run();
        words.is("the latest, not the last of all", x.heard(0, 0, 3, 1), 1);
        words.is("the other one stays", x.heard(1, 0, 3, 1), 2);
        words.says("else by the first LINE of the PLAN that agrees in all it tells: its LETTER;");
        x = Due.of("king;size 4;phases 2;starts 1111;false 03",
            "phase 1 round 0 from 3 to 2 2;phase 1 round 0 from 3 0;phase 1 from 3 to 2 0;phase 0 to 2 0;round 1 from 0 2;1", 1);
        x.run();
        int[][] want = {{0, 0, 3, 2, 0}, {0, 0, 3, 1, 1}, {0, 1, 3, 2, 0}, {0, 1, 0, 2, 0}, {0, 1, 0, 1, 2}, {0, 2, 0, 2, 0},
            {0, 2, 0, 0, 1}, {1, 0, 3, 2, 2}, {1, 0, 3, 1, 0}, {1, 0, 0, 2, 1}, {1, 1, 3, 2, 0}, {1, 1, 3, 0, 1}, {1, 1, 0, 3, 2}};
        for (int[] w : want) {
            words.is("heard(" + w[0] + ", " + w[1] + ", " + w[2] + ", " + w[3] + ")", x.heard(w[0], w[1], w[2], w[3]), w[4]);
        }
        words.says("same: as a TRUE one;");
        for (int act = 0; act < 3; act++) {
            if (act == 1) {
                words.says("turn: 1 less that (2: 2);");
            } else if (act == 2) {
                words.says("split: the receiver's number modulo 2;");
            }
            acts(act);
        }
    }

    /** PEER 0 holds 1 and OFFERS 2, PEER 1 holds 0: what they send by same (0), turn (1), split (2). */
    private void acts(int act) {
        String[] names = {"same", "turn", "split"};
        RulerWord x = Due.of("king;size 5;bound 1;phases 1;starts 10100;false 01", names[act] + ";0", 1);
        x.run();
        for (int to = 0; to < 5; to++) {
            words.is(names[act] + " of 1", x.heard(0, 0, 0, to), act == 0 ? 1 : act == 1 ? 0 : to % 2);
            words.is(names[act] + " of 0", x.heard(0, 0, 1, to), act == 0 ? 0 : act == 1 ? 1 : to % 2);
            words.is("it offers 2, by split 0", x.told(0, 0, 4), act == 2 ? 0 : 2);
            words.is(names[act] + " of 2", x.heard(0, 1, 0, to), act == 2 ? to % 2 : 2);
            words.is(names[act] + " of the ruler", x.heard(0, 2, 0, to), act == 0 ? 1 : act == 1 ? 0 : to % 2);
        }
    }

    private static int[] drawn(long seed, int many) {
        BigInteger round = BigInteger.ONE.shiftLeft(64);
        BigInteger x = BigInteger.valueOf(seed).mod(round);
        int[] letters = new int[many];
        for (int k = 0; k < many; k++) {
            x = x.multiply(new BigInteger("6364136223846793005")).add(new BigInteger("1442695040888963407")).mod(round);
            letters[k] = x.shiftRight(33).mod(BigInteger.valueOf(3)).intValue();
        }
        return letters;
    }

    private void draws() {
        words.says("draw: x, at first the SEED, becomes x times 6364136223846793005 and 1442695040888963407 (64 bits, going round), "
            + "shifted right by 33, without sign, modulo 3 (only where a draw is asked, in the order of sending; oneself "
            + "included);");
        for (long seed : new long[] {0, 1, -1, 5, Long.MAX_VALUE, Long.MIN_VALUE, 1L << 33, -6364136223846793005L}) {
            int[] want = drawn(seed, 80);
            RulerWord x = Due.of("queen;size 3;phases 6;false 12;starts 010", "draw", seed);
            x.run();
            int k = 0;
            for (int phase = 0; phase < 6; phase++) {
                for (int place = 3; place < 9; place++) {
                    words.is("seed " + seed, x.heard(phase, 0, place / 3, place % 3), want[k++]);
                }
                for (int to = 0; to < 3 && phase % 3 != 0; to++) {
                    words.is("seed " + seed + ", ruler", x.heard(phase, 1, phase % 3, to), want[k++]);
                }
            }
        }
        RulerWord x = Due.of("queen;size 3;phases 2;false 12;starts 010", "round 0 from 1 to 0 1;from 2 to 1 same;draw", 9);
        x.say(0, 0, 2, 2, 1);
        x.run();
        int[] want = drawn(9, 20);
        int k = 0;
        words.is("told by a line: not asked", x.heard(0, 0, 1, 0), 1);
        words.is("first", x.heard(0, 0, 1, 1), want[k++]);
        words.is("second", x.heard(0, 0, 1, 2), want[k++]);
        words.is("third", x.heard(0, 0, 2, 0), want[k++]);
        words.is("same: not asked", x.heard(0, 0, 2, 1), 0);
        words.is("said: not asked", x.heard(0, 0, 2, 2), 1);
        words.is("fourth", x.heard(1, 0, 1, 1), want[k++]);
        words.says("without any as a TRUE one.");
        x = Due.of("king;size 4;bound 1;phases 2;starts 0101;false 1", "from 2 0;phase 5 1;to 8 2", 1);
        x.run();
        words.is("round 0: what it holds", x.heard(0, 0, 1, 0), 1);
        words.is("round 1: what it offers", x.heard(0, 1, 1, 0), 2);
        words.is("as ruler: what it holds", x.heard(1, 2, 1, 0), x.peer(1, 0));
        words.says("In ROUNDS of a RULER it alone sends.");
        x = Due.of("king;size 4;bound 1;phases 1;starts 0101;false 123", "1", 1);
        x.say(0, 2, 1, 0, 1);
        x.round();
        x.round();
        int before = x.letters(0);
        x.round();
        for (int to = 0; to < 4; to++) {
            words.is("the ruler", x.heard(0, 2, 0, to) != NONE, true);
            for (int from = 1; from < 4; from++) {
                words.is("from " + from, x.heard(0, 2, from, to), NONE);
            }
        }
        words.is("its letters alone count", x.letters(0), before + 3);
    }

    // ---- promises 9 to 16 ----

    private void round() {
        words.promise(9);
        words.says("The next ROUND: ROUNDS gone then.");
        RulerWord x = Due.of("king;size 3;phases 6");
        for (int k = 1; k <= 18; k++) {
            words.is("round()", x.round(), k);
            words.is("count(2)", x.count(2), k);
        }
        words.says("NONE: no COUNCIL, it is over.");
        words.is("it is over", x.round(), NONE);
        words.is("nothing more is gone", x.count(2), 18);
        words.is("no act", x.count(1), 18);
        words.is("no council", new RulerWord().round(), NONE);
        x = Due.of("queen;size 3;phases 1");
        x.round();
        words.is("the last round of queens", x.round(), 2);
        words.is("over", x.round(), NONE);
        x.undo();
        words.is("not over any more", x.round(), 2);
    }

    private void run() {
        words.promise(10);
        words.says("All ROUNDS that are left: how many.");
        for (int gone = 0; gone < 18; gone++) {
            RulerWord x = Due.of("king;size 3;phases 6");
            for (int k = 0; k < gone; k++) {
                x.round();
            }
            words.is("run()", x.run(), 18 - gone);
            words.is("all are gone", x.count(2), 18);
            words.is("each is an act", x.count(1), 18);
        }
        RulerWord x = Due.of("queen;size 9;phases 6;false 18;starts 110000000", "draw", 4);
        RulerWord y = Due.of("queen;size 9;phases 6;false 18;starts 110000000", "draw", 4);
        words.is("run()", x.run(), 12);
        for (int k = 0; k < 12; k++) {
            y.round();
        }
        words.is("as one by one", Due.everything(x), Due.everything(y));
        words.says("NONE: no COUNCIL, none is left.");
        words.is("none is left", x.run(), NONE);
        words.is("nothing more is gone", x.count(2), 12);
        words.is("no council", new RulerWord().run(), NONE);
    }

    private void say() {
        words.promise(11);
        words.says("A LETTER is SAID by hand, for a PHASE below P, a ROUND that isn't gone yet: how many were (told again: one more).");
        RulerWord x = Due.of("king;size 4;phases 2;false 13", "0", 1);
        words.is("the first", x.say(0, 0, 1, 0, 1), 1);
        words.is("told again", x.say(0, 0, 1, 0, 1), 2);
        words.is("another letter", x.say(0, 0, 1, 0, 2), 3);
        words.is("the last phase, round", x.say(1, 2, 1, 3, 2), 4);
        words.is("to itself", x.say(0, 0, 3, 3, 1), 5);
        x.round();
        words.is("the round behind one that is gone", x.say(0, 1, 1, 0, 0), 6);
        x.round();
        words.is("the ruler's round, another sender", x.say(0, 2, 1, 0, 0), 7);
        words.is("rule(11)", x.rule(11), 7);
        words.is("each is an act", x.count(1), 9);
        words.says("NONE: no COUNCIL (STATUS 0),");
        RulerWord y = new RulerWord();
        words.is("no council", y.say(0, 0, 0, 0, 0), NONE);
        words.is("no council, no such ones", y.say(-1, 9, 9, 9, 9), NONE);
        words.is("status(0)", y.status(0), 2);
        words.is("status(1)", y.status(1), 0);
        words.says("no such PHASE, ROUND, PEERS, LETTER (1),");
        int refused = 0;
        int[] fits = {1, 1, 1, 0, 0};
        int[] first = {2, 3, 4, 4, 3};
        for (int place = 0; place < 5; place++) {
            for (int k = 0; k < 8; k++) {
                int[] a = fits.clone();
                a[place] = k == 7 ? first[place] : FAR[k];
                words.is("argument " + place + " is " + a[place], x.say(a[0], a[1], a[2], a[3], a[4]), NONE);
                refused++;
                words.is("status(1)", x.status(1), refused);
            }
        }
        words.is("queens have no round 2", Due.of("queen;size 3;false 0").say(0, 2, 0, 0, 0), NONE);
        words.says("from isn't FALSE (2),");
        words.is("by a true one", x.say(1, 1, 0, 0, 0), NONE);
        words.is("by a true one, gone", x.say(0, 0, 2, 0, 0), NONE);
        words.is("status(2)", x.status(2), 2);
        words.is("by a true one, no such letter", x.say(1, 1, 0, 0, 3), NONE);
        words.is("status(2) stays", x.status(2), 2);
        words.says("that ROUND is gone (3),");
        words.is("gone", x.say(0, 1, 1, 0, 0), NONE);
        words.is("gone long ago", x.say(0, 0, 3, 0, 0), NONE);
        words.is("status(3)", x.status(3), 2);
        words.is("what was heard stays", x.heard(0, 0, 3, 0), 0);
        words.says("30 were (4).");
        for (int k = 8; k <= 30; k++) {
            words.is("said", x.say(1, 0, 3, 0, 0), k);
        }
        words.is("the 31st", x.say(1, 0, 3, 0, 1), NONE);
        words.is("status(4)", x.status(4), 1);
        words.is("rule(11)", x.rule(11), 30);
        words.is("30, and gone", x.say(0, 0, 3, 0, 1), NONE);
        words.is("30, and by a true one", x.say(1, 0, 0, 0, 1), NONE);
        words.is("status(4) stays", x.status(4), 1);
        x.undo();
        words.is("29 again", x.say(1, 0, 3, 0, 1), 30);
        x.run();
        words.is("the 30th counts", x.heard(1, 0, 3, 0), 1);
    }

    private void starts() {
        words.promise(12);
        words.says("Other STARTS, ahead of the first ROUND: those that were.");
        RulerWord x = Due.of("king;size 4;phases 1;starts 1010");
        words.is("starts(0)", x.starts(0), 5);
        words.is("starts(15)", x.starts(15), 0);
        words.is("starts(8)", x.starts(8), 15);
        words.is("rule(4)", x.rule(4), 8);
        for (int i = 0; i < 4; i++) {
            words.is("peer(" + i + ", 3)", x.peer(i, 3), i == 3 ? 1 : 0);
            words.is("peer(" + i + ", 0)", x.peer(i, 0), i == 3 ? 1 : 0);
        }
        x.round();
        words.is("they are sent", x.heard(0, 0, 3, 0), 1);
        words.says("NONE: no COUNCIL (STATUS 0),");
        RulerWord y = new RulerWord();
        words.is("no council", y.starts(0), NONE);
        words.is("no council, no such ones", y.starts(-1), NONE);
        words.is("status(0)", y.status(0), 2);
        words.is("status(1)", y.status(1), 0);
        words.says("no such STARTS (1),");
        for (int n = 3; n <= 9; n++) {
            y = Due.of("queen;size " + n);
            words.is("the greatest", y.starts((1 << n) - 1), 0);
            words.is("one above", y.starts(1 << n), NONE);
            for (int bits : new int[] {-1, Integer.MIN_VALUE, Integer.MAX_VALUE, 512, 1 << 16}) {
                words.is("starts(" + bits + ")", y.starts(bits), NONE);
            }
            words.is("status(1)", y.status(1), 6);
            words.is("they stay", y.rule(4), (1 << n) - 1);
            words.is("no act", y.count(1), 1);
        }
        words.says("a ROUND is gone (3).");
        words.is("behind a round", x.starts(0), NONE);
        words.is("status(3)", x.status(3), 1);
        words.is("no such ones, behind a round", x.starts(16), NONE);
        words.is("status(1) is the first", x.status(1), 1);
        words.is("status(3) stays", x.status(3), 1);
        words.is("they stay", x.rule(4), 8);
        x.run();
        words.is("when it is over", x.starts(0), NONE);
        words.is("status(3)", x.status(3), 2);
        for (int k = 0; k < 3; k++) {
            x.undo();
        }
        words.is("ahead again", x.starts(1), 8);
    }

    private void falseOnes() {
        words.promise(13);
        words.says("Other FALSE ones, ahead of the first ROUND (what was SAID by those that aren't any more is gone): those that "
            + "were.");
        RulerWord x = Due.of("king;size 4;phases 2;false 03", "2", 1);
        x.say(0, 0, 0, 1, 0);
        x.say(0, 0, 3, 1, 1);
        x.say(1, 0, 3, 2, 1);
        x.say(1, 0, 0, 2, 1);
        words.is("falseOnes(12)", x.falseOnes(12), 9);
        words.is("rule(5)", x.rule(5), 12);
        words.is("what 0 said is gone", x.rule(11), 2);
        words.is("falseOnes(9)", x.falseOnes(9), 12);
        words.is("it doesn't come again", x.rule(11), 2);
        words.is("falseOnes(0)", x.falseOnes(0), 9);
        words.is("all is gone", x.rule(11), 0);
        words.is("nobody is false", x.peer(3, 2), 0);
        x.undo();
        words.is("undone", x.rule(11), 2);
        x.run();
        words.is("what 3 said stays", x.heard(0, 0, 3, 1), 1);
        words.is("what 3 said later stays", x.heard(1, 0, 3, 2), 1);
        words.is("0 sends by the plan", x.heard(0, 0, 0, 1), 2);
        words.says("NONE: no COUNCIL (STATUS 0),");
        RulerWord y = new RulerWord();
        words.is("no council", y.falseOnes(0), NONE);
        words.is("no council, no such set", y.falseOnes(-1), NONE);
        words.is("status(0)", y.status(0), 2);
        words.is("status(1)", y.status(1), 0);
        words.says("no such set, all of them (1),");
        for (int n = 3; n <= 9; n++) {
            y = Due.of("queen;size " + n);
            words.is("all but 0", y.falseOnes((1 << n) - 2), 0);
            words.is("all of them", y.falseOnes((1 << n) - 1), NONE);
            words.is("no such peer", y.falseOnes(1 << n), NONE);
            for (int bits : new int[] {-1, -2, Integer.MIN_VALUE, Integer.MAX_VALUE, 1 << 16}) {
                words.is("falseOnes(" + bits + ")", y.falseOnes(bits), NONE);
            }
            words.is("status(1)", y.status(1), 7);
            words.is("they stay", y.rule(5), (1 << n) - 2);
            words.is("no act", y.count(1), 1);
        }
        words.says("a ROUND is gone (3).");
        words.is("when it is over", x.falseOnes(1), NONE);
        words.is("status(3)", x.status(3), 1);
        words.is("all of them, when it is over", x.falseOnes(15), NONE);
        words.is("status(1) is the first", x.status(1), 1);
        words.is("status(3) stays", x.status(3), 1);
        y = Due.of("queen;size 3");
        y.round();
        words.is("behind the first round", y.falseOnes(0), NONE);
        words.is("status(3)", y.status(3), 1);
        y.undo();
        words.is("ahead of it again", y.falseOnes(4), 0);
    }

    private void heard() {
        words.promise(14);
        words.says("The LETTER that a PEER heard from another one (or itself) in a ROUND.");
        RulerWord x = Due.of("king;size 4;bound 1;phases 2;starts 0101;false 3", "round 0 to 3 2;round 0 split;round 1 0", 1);
        x.run();
        int[][] sent = {{0, 0, 0, 0}, {1, 1, 1, 1}, {0, 0, 0, 0}, {0, 1, 0, 2}};
        for (int place = 0; place < 16; place++) {
            words.is("from " + place / 4 + " to " + place % 4, x.heard(0, 0, place / 4, place % 4), sent[place / 4][place % 4]);
        }
        words.is("0 and 2 hear three 0, 1 hears two: it offers nothing", x.heard(0, 1, 1, 2), 2);
        words.is("0 offers 0", x.heard(0, 1, 0, 2), 0);
        words.says("NONE: it isn't gone,");
        RulerWord y = Due.of("queen;size 3;phases 2");
        for (int gone = 0; gone <= 4; gone++) {
            for (int k = 0; k < 4; k++) {
                words.is("heard of round " + k + " behind " + gone, y.heard(k / 2, k % 2, k / 2, 0) != NONE, k < gone);
            }
            y.round();
        }
        y.undo();
        words.is("undone: it isn't gone", y.heard(1, 1, 1, 0), NONE);
        words.says("nobody sends that (not the RULER),");
        for (int phase = 0; phase < 2; phase++) {
            for (int from = 0; from < 4; from++) {
                words.is("last round, from " + from, x.heard(phase, 2, from, 1) == NONE, from != phase);
            }
        }
        words.says("no such ones.");
        words.is("no council", new RulerWord().heard(0, 0, 0, 0), NONE);
        int[] first = {2, 3, 4, 4};
        for (int place = 0; place < 4; place++) {
            for (int k = 0; k <= FAR.length; k++) {
                int[] a = new int[4];
                a[place] = k == FAR.length ? first[place] : FAR[k];
                words.is("argument " + place + " is " + a[place], x.heard(a[0], a[1], a[2], a[3]), NONE);
            }
        }
        words.is("round -1 of phase 1", x.heard(1, -1, 0, 0), NONE);
        words.is("round 3 of phase 0", x.heard(0, 3, 0, 0), NONE);
        words.is("queens have no round 2", y.heard(0, 2, 0, 0), NONE);
    }

    private void peer() {
        words.promise(15);
        words.says("Of a PEER: 0 what it HOLDS now, 1 whom it SUSPECTS (bits), 2 whether it is FALSE (1, 0), 3 its START.");
        RulerWord x = Due.of("king;size 4;bound 1;phases 4;starts 0111;false 13", "round 2 0", 1);
        int[][] ahead = {{0, 0, 0, 0}, {1, 0, 1, 1}, {1, 0, 0, 1}, {1, 0, 1, 1}};
        for (int place = 0; place < 16; place++) {
            words.is("ahead: peer(" + place / 4 + ", " + place % 4 + ")", x.peer(place / 4, place % 4), ahead[place / 4][place % 4]);
        }
        x.round();
        words.is("0 holds its start behind round 0", x.peer(0, 0), 0);
        x.round();
        words.is("0 holds 1 behind round 1", x.peer(0, 0), 1);
        x.run();
        int[][] want = {{1, 10, 0, 0}, {1, 8, 1, 1}, {1, 10, 0, 1}, {1, 2, 1, 1}};
        for (int place = 0; place < 16; place++) {
            words.is("peer(" + place / 4 + ", " + place % 4 + ")", x.peer(place / 4, place % 4), want[place / 4][place % 4]);
        }
        words.says("NONE: no such ones.");
        for (int k = 0; k <= 4; k++) {
            words.is("no council", new RulerWord().peer(0, k), NONE);
            words.is("peer(4, " + k + ")", x.peer(4, k), NONE);
            words.is("peer(-1, " + k + ")", x.peer(-1, k), NONE);
            words.is("peer(" + k + ", 4)", x.peer(k, 4), NONE);
        }
        for (int far : FAR) {
            words.is("peer(" + far + ", 0)", x.peer(far, 0), NONE);
            words.is("peer(0, " + far + ")", x.peer(0, far), NONE);
        }
    }

    private void told() {
        words.promise(16);
        words.says("Of a PEER in a PHASE that is over: 0 what it HOLDS behind it, 1 whether it was FIRM, 2 how many LETTERS 0 it "
            + "heard in ROUND 0, 3 how many 1, 4 king: what it OFFERED, queen: to what it LEANED, 5, 6 king: how many 0, 1 it "
            + "heard in ROUND 1, 7 whether it took the RULER's word (1, 0).");
        RulerWord x = Due.of("king;size 4;bound 1;phases 2;starts 0101;false 3",
            "round 0 to 3 2;round 0 to 1 1;round 0 0;round 1 to 2 2;round 1 0", 1);
        x.run();
        int[][] kings = {{0, 1, 3, 1, 0, 3, 0, 0}, {0, 1, 2, 2, 2, 3, 0, 0}, {0, 0, 3, 1, 0, 2, 0, 1}, {0, 1, 2, 1, 2, 3, 0, 0}};
        for (int place = 0; place < 32; place++) {
            words.is("kings: told(" + place / 8 + ", 0, " + place % 8 + ")", x.told(place / 8, 0, place % 8),
                kings[place / 8][place % 8]);
        }
        RulerWord y = Due.of("queen;size 4;bound 0;phases 2;starts 0101;false 3", "round 0 to 0 1;round 0 to 1 2;round 0 0", 1);
        y.run();
        int[][] queens = {{0, 0, 2, 2, 0, -1, -1, 1}, {0, 0, 2, 1, 0, -1, -1, 1}, {0, 1, 3, 1, 0, -1, -1, 0},
            {0, 1, 3, 1, 0, -1, -1, 0}};
        for (int place = 0; place < 32; place++) {
            words.is("queens: told(" + place / 8 + ", 0, " + place % 8 + ")", y.told(place / 8, 0, place % 8),
                queens[place / 8][place % 8]);
        }
        words.says("NONE: no such ones (5, 6 of queens, too).");
        words.is("5 of queens", y.told(0, 1, 5), NONE);
        words.is("6 of queens", y.told(0, 1, 6), NONE);
        words.is("5 of kings", x.told(0, 1, 5), 4);
        words.is("no council", new RulerWord().told(0, 0, 0), NONE);
        for (int k = 0; k < 8; k++) {
            words.is("phase 2", x.told(0, 2, k), NONE);
            words.is("peer 4", x.told(4, 0, k), NONE);
        }
        for (int far : FAR) {
            words.is("told(" + far + ", 0, 0)", x.told(far, 0, 0), NONE);
            words.is("told(0, " + far + ", 0)", x.told(0, far, 0), NONE);
            words.is("told(0, 0, " + far + ")", x.told(0, 0, far), NONE);
        }
        words.is("what 8", x.told(0, 0, 8), NONE);
        for (int gone = 5; gone >= 0; gone--) {
            x.undo();
            words.is("phase 0 behind " + gone, x.told(0, 0, 0) != NONE, gone >= 3);
            words.is("phase 1 behind " + gone, x.told(0, 1, 0), NONE);
        }
    }
}
