import java.util.ArrayList;
import java.util.List;
import java.util.NoSuchElementException;

/** The sentences on texts: ==== 1. of the Terms, promises 1 to 8. */
final class EdgesOfTexts {
    private static final int NONE = RulerWord.NONE;
    private static final int HIDDEN = RulerWord.HIDDEN;
    private static final int[] FAR = {Integer.MIN_VALUE, -1000000, -3, -2, -1, 1000000, Integer.MAX_VALUE};

    private final Words words;

    EdgesOfTexts(Words words) {
        this.words = words;
    }

    void all() {
        words.section("Terms");
        councilText();
        councilNumbers();
        councilRows();
        councilSigns();
        councilFaults();
        planText();
        planFaults();
        newObject();
        feed();
        end();
        fault();
        council();
        plan();
        rule();
        line();
    }

    private void council(String text, int want) {
        words.is("fault(0) of '" + text + "'", Due.fault(0, text), want);
    }

    private void rule(String text, int what, int want) {
        words.is("rule(" + what + ") of '" + text + "'", Due.of(text).rule(what), want);
    }

    private void plan(String text, int want) {
        words.is("fault(1) of '" + text + "'", Due.fault(1, text), want);
    }

    private static int line(RulerWord x, int i, int what) {
        try {
            return x.line(i, what);
        } catch (NoSuchElementException e) {
            return -99;
        }
    }

    private int lineOf(String text, int i, int what) {
        RulerWord x = new RulerWord();
        Due.tell(x, text);
        return line(x, i, what);
    }

    // ---- the COUNCIL ----

    private void councilText() {
        words.says("A COUNCIL is a TEXT: PIECES with ; between: first king or queen (its FORM), then, in any order, "
            + "each at most once:");
        rule("king;size 4", 0, 0);
        rule("queen;size 4", 0, 1);
        for (String first : new String[] {"size 4", "bound 1", "phases 1", "starts 0000", "false 1", "skip", "", " ;"}) {
            council(first + ";king;size 4", first.equals(" ;") ? 1 : 0);
        }
        council("king size 4", 5);
        council("king;size 4 skip", 12);
        council("king;;size 4", 5);
        council("king;size 4;;skip", 12);
        council("king; ;size 4", 6);
        permute(new ArrayList<>(), new ArrayList<>(List.of("size 4", "bound 2", "phases 3", "starts 0110", "false 13",
            "skip")));
    }

    /** All orders of the six PIECES: those with size ahead of starts and false are the same COUNCIL. */
    private void permute(List<String> done, List<String> left) {
        if (!left.isEmpty()) {
            for (String piece : left) {
                List<String> next = new ArrayList<>(done);
                List<String> rest = new ArrayList<>(left);
                next.add(piece);
                rest.remove(piece);
                permute(next, rest);
            }
            return;
        }
        String text = "queen;" + String.join(";", done);
        int starts = done.indexOf("starts 0110");
        int falses = done.indexOf("false 13");
        if (Math.min(starts, falses) < done.indexOf("size 4")) {
            council(text, text.indexOf(done.get(Math.min(starts, falses))));
            return;
        }
        RulerWord x = Due.of(text);
        int[] want = {1, 4, 2, 3, 6, 10, 1};
        for (int k = 0; k < want.length; k++) {
            words.is("rule(" + k + ") of '" + text + "'", x.rule(k), want[k]);
        }
    }

    private void councilNumbers() {
        words.says("size N (3 to 9; must be told): PEERS 0 to N less 1;");
        for (int n = 0; n <= 9; n++) {
            council("king;size " + n, n < 3 ? 10 : NONE);
            if (n >= 3) {
                RulerWord x = Due.of("queen;size " + n);
                words.is("rule(1)", x.rule(1), n);
                words.is("the first peer", x.peer(0, 0), 0);
                words.is("the last peer", x.peer(n - 1, 0), 0);
                words.is("none behind it", x.peer(n, 0), NONE);
            }
        }
        council("queen;bound 1;phases 2;skip", 27);
        words.says("bound T (0 to 4; without: [(N less 1) / 3] of kings, / 4 of queens, cut);");
        int[] kings = {0, 1, 1, 1, 2, 2, 2};
        int[] queens = {0, 0, 1, 1, 1, 1, 2};
        for (int n = 3; n <= 9; n++) {
            rule("king;size " + n, 2, kings[n - 3]);
            rule("queen;size " + n, 2, queens[n - 3]);
            for (int t = 0; t <= 9; t++) {
                council("king;size " + n + ";bound " + t, t <= 4 ? NONE : 18);
                if (t <= 4) {
                    rule("queen;bound " + t + ";size " + n, 2, t);
                }
            }
        }
        words.says("phases P (1 to 6; without: T and 1);");
        for (int p = 0; p <= 9; p++) {
            council("king;size 3;phases " + p, p < 1 || p > 6 ? 19 : NONE);
            if (p >= 1 && p <= 6) {
                rule("king;phases " + p + ";size 3;bound 4", 3, p);
            }
        }
        for (int t = 0; t <= 4; t++) {
            rule("queen;size 3;bound " + t, 3, t + 1);
        }
        for (int n = 3; n <= 9; n++) {
            rule("king;size " + n, 3, kings[n - 3] + 1);
            rule("queen;size " + n, 3, queens[n - 3] + 1);
        }
    }

    private void councilRows() {
        words.says("starts: N digits 0, 1 (PEER 0's first; without: all 0);");
        for (int n = 3; n <= 9; n++) {
            String size = "king;size " + n + ";starts ";
            council(size + "0".repeat(n), NONE);
            council(size + "1".repeat(n), NONE);
            council(size + "1".repeat(n - 1), 19);
            council(size + "1".repeat(n + 1), 19);
            council(size + "1".repeat(n - 1) + "2", 19);
            council(size + "9" + "1".repeat(n - 1), 19);
            rule(size + "1" + "0".repeat(n - 1), 4, 1);
            rule(size + "0".repeat(n - 1) + "1", 4, 1 << n - 1);
            rule("king;size " + n, 4, 0);
            words.is("peer 0's is the first", Due.of(size + "1" + "0".repeat(n - 1)).peer(0, 3), 1);
        }
        words.says("false: digits of PEERS, rising, not all of them (none without);");
        for (int n = 3; n <= 9; n++) {
            String size = "king;size " + n + ";false ";
            String peers = "012345678".substring(0, n);
            council(size + peers, 18);
            council(size + peers.substring(1), NONE);
            council(size + peers.substring(0, n - 1), NONE);
            council(size + n, 18);
            council(size + "0" + n, 18);
            rule(size + (n - 1), 5, 1 << n - 1);
            rule(size + peers.substring(1), 5, (1 << n) - 2);
            rule("king;size " + n, 5, 0);
        }
        council("king;size 4;false 02", NONE);
        council("king;size 4;false 20", 18);
        council("king;size 4;false 11", 18);
        council("king;size 4;false 121", 18);
        council("king;size 4;false", 17);
        words.says("skip.");
        rule("king;size 3;skip", 6, 1);
        rule("king;size 3", 6, 0);
        council("king;size 3;skip 1", 17);
        words.says("Numbers are one digit.");
        council("king;size 03", 10);
        council("king;size 30", 10);
        council("king;size 3;bound 00", 18);
        council("king;size 3;phases 01", 19);
        council("king;size 3;phases 0000000000000001", 19);
        words.says("size stands ahead of starts, false.");
        council("king;starts 000;size 3", 5);
        council("king;false 0;size 3", 5);
        council("king;bound 1;false 0;size 3", 13);
        council("king;bound 1;phases 2;skip;size 3;false 0;starts 000", NONE);
    }

    private void councilSigns() {
        words.says("Words (small letters), rows of digits go as long as they can;");
        council("kingsize 3", 0);
        council("king;skipsize 3", 5);
        council("king;size3;skip", NONE);
        council("king;size3skip", 10);
        council("king;siz e 3", 5);
        council("king;size 3 3", 12);
        council("king;size 3;starts 00 0", 19);
        council("king;size 3;false 1 2", 20);
        council("KING;size 3", 0);
        council("king;sIZE 3", 5);
        words.says("blanks (32) may stand ahead of and behind them, and ; .");
        council("   king   ;   size   3   ;   starts   000   ;   false   0   ;   skip   ", NONE);
        council(" ".repeat(200) + "king" + " ".repeat(200) + ";size 3", NONE);
        for (char blank : new char[] {9, 10, 11, 12, 13, 31, 33, 127, 160}) {
            council("king;" + blank + "size 3", 5);
            council("king;size" + blank + "3", 9);
            council(blank + "king;size 3", 0);
        }
    }

    private void councilFaults() {
        words.says("FAULT: where the first part begins that can't stand there:");
        council("  prince;size 3", 2);
        council("king;size 2;bound 9", 10);
        council("king;bound 9;size 2", 11);
        council("king;size 3;  skip  skip", 20);
        words.says("an unknown word,");
        council("prince;size 3", 0);
        council("king;sizes 3", 5);
        council("king;siz 3", 5);
        council("king;size three", 10);
        council("king;size 3;phase 1", 12);
        council("king;size 3;falses 1", 12);
        for (String word : new String[] {"king", "queen", "size", "bound", "phases", "starts", "false", "skip"}) {
            boolean form = word.equals("king") || word.equals("queen");
            String rest = word.equals("skip") || form ? "" : word.equals("starts") ? " 000" : word.equals("size") ? " 3" : " 1";
            String ahead = form ? "" : word.equals("size") ? "king;" : "king;size 3;";
            String behind = rest + (form ? ";size 3" : "");
            council(ahead + word + behind, NONE);
            for (String other : misspelt(word)) {
                council(ahead + other + behind, ahead.length());
            }
        }
        words.says("one that was there (king, queen again, too),");
        for (String piece : new String[] {"king", "queen", "size 3", "bound 0", "phases 1", "starts 000", "false 0", "skip"}) {
            String text = "king;size 3;bound 0;phases 1;starts 000;false 0;skip;";
            council(text + piece, text.length());
            council("queen" + text.substring(4) + piece, text.length() + 1);
        }
        council("king;king;size 3", 5);
        council("king;queen;size 3", 5);
        words.says("starts, false ahead of size;");
        council("king;starts", 5);
        council("queen;false", 6);
        council("king;skip;false 012345;size 3", 10);
        words.says("a row of digits that is no such number (more digits, too), no such row;");
        council("king;size 2", 10);
        council("king;size 33", 10);
        council("king;size 3;bound 5", 18);
        council("king;size 3;bound 11", 18);
        council("king;size 3;phases 7", 19);
        council("king;size 3;phases 11", 19);
        council("king;size 3;starts 00", 19);
        council("king;size 3;starts 0000", 19);
        council("king;size 3;starts 012", 19);
        council("king;size 3;false 012", 18);
        council("king;size 3;false 3", 18);
        council("3;size 3", 0);
        council("king;size 3;3", 12);
        words.says("any other byte;");
        for (char sign = 1; sign < 256; sign++) {
            boolean letter = sign >= 'a' && sign <= 'z';
            boolean digit = sign >= '0' && sign <= '9';
            int behind = sign == ' ' ? NONE : sign == ';' ? 12 : digit ? 10 : 11;
            council("king;size 3" + sign, behind);
            council(sign + "king;size 3", sign == ' ' ? NONE : 0);
            council("king" + sign + ";size 3", sign == ' ' ? NONE : sign == ';' ? 5 : letter ? 0 : 4);
        }
        words.says("the length, if the TEXT ends too early (size not told, too).");
        council("", 0);
        council("     ", 5);
        council("king", 4);
        council("king;", 5);
        council("king;size", 9);
        council("king;size   ", 12);
        council("king;size 3;", 12);
        council("king;size 3;  ", 14);
        council("king;size 3;bound", 17);
        council("king;size 3;phases ", 19);
        council("king;size 3;starts", 18);
        council("king;size 3;false", 17);
        council("king;skip", 9);
        council("king;bound 4;phases 6;skip  ", 28);
        council("king;size 3;bound 0;phases 1;starts 000;false 0;skip;", 53);
    }

    // ---- the PLAN ----

    private void planText() {
        words.says("A PLAN is a TEXT: LINES with ; between, 1 to 20:");
        plan("", 0);
        for (int lines = 1; lines <= 20; lines++) {
            String text = "0;".repeat(lines - 1) + "1";
            plan(text, NONE);
            RulerWord x = new RulerWord();
            Due.feed(x, text);
            words.is("plan()", x.plan(), lines);
        }
        plan("0;".repeat(20) + "1", 40);
        plan("0 1", 2);
        plan("0;;1", 2);
        plan(";0", 0);
        String[] names = {"phase", "round", "from", "to"};
        int[] most = {5, 2, 8, 8};
        for (int what = 0; what < 4; what++) {
            switch (what) {
                case 0 -> words.says("perhaps phase K (0 to 5),");
                case 1 -> words.says("perhaps round R (0 to 2),");
                case 2 -> words.says("perhaps from I,");
                default -> words.says("perhaps to J (0 to 8),");
            }
            for (int number = 0; number <= 9; number++) {
                String text = names[what] + " " + number + " 1";
                plan(text, number <= most[what] ? NONE : names[what].length() + 1);
                if (number <= most[what]) {
                    words.is("line(0, " + what + ") of " + text, lineOf(text, 0, what), number);
                }
            }
            words.is("not told", lineOf("1", 0, what), NONE);
            plan(names[what], names[what].length());
            plan(names[what] + " 00 1", names[what].length() + 1);
        }
        words.says("in this order,");
        for (int set = 0; set < 16; set++) {
            StringBuilder text = new StringBuilder();
            for (int what = 0; what < 4; what++) {
                text.append((set >> what & 1) == 1 ? names[what] + " 1 " : "");
            }
            plan(text + "2", NONE);
        }
        for (int later = 0; later < 4; later++) {
            for (int what = 0; what <= later; what++) {
                String text = names[later] + " 1 ";
                plan(text + names[what] + " 1 2", text.length());
            }
        }
        words.says("then one of: 0 1 2 (digits alone: that LETTER), same, turn, split, draw.");
        String[] acts = {"0", "1", "2", "same", "turn", "split", "draw"};
        for (int act = 0; act < acts.length; act++) {
            words.is("line(0, 4) of " + acts[act], lineOf(acts[act], 0, 4), act);
            words.is("line(0, 4) with all told", lineOf("phase 0 round 0 from 0 to 0 " + acts[act], 0, 4), act);
        }
        for (int digit = 3; digit <= 9; digit++) {
            plan("" + digit, 0);
            plan("to 1 " + digit, 5);
        }
        plan("00", 0);
        plan("12", 0);
    }

    /** A word with one letter changed, left out, or more; none of these is a word. */
    private static List<String> misspelt(String word) {
        List<String> others = new ArrayList<>();
        for (int i = 0; i < word.length(); i++) {
            char next = word.charAt(i) == 'z' ? 'a' : (char) (word.charAt(i) + 1);
            others.add(word.substring(0, i) + next + word.substring(i + 1));
            if (word.length() > 2) {
                others.add(word.substring(0, i) + word.substring(i + 1));
            }
        }
        others.add(word + "x");
        others.add("x" + word);
        others.add(word + word);
        return others;
    }

    private void planFaults() {
        words.says("FAULT likewise;");
        for (String word : new String[] {"phase", "round", "from", "to", "same", "turn", "split", "draw"}) {
            boolean act = "same turn split draw".contains(word);
            plan("0;" + word + (act ? "" : " 1 2"), NONE);
            for (String other : misspelt(word)) {
                plan("0;" + other + (act ? "" : " 1 2"), 2);
            }
        }
        plan("nothing", 0);
        plan("same same", 5);
        plan("draws", 0);
        plan("phase 1 king", 8);
        plan("phases 1 0", 0);
        plan("phase 11 0", 6);
        plan("to 1 00", 5);
        plan("from 1 to 2", 11);
        plan("from 1 to 2 ", 12);
        plan("0;", 2);
        plan("0;  ", 4);
        plan("   ", 3);
        plan("phase1round1from1to1draw", NONE);
        plan("  phase  1  round  1  from  1  to  1  draw  ;  2  ", NONE);
        for (char sign = 1; sign < 256; sign++) {
            boolean letter = sign >= 'a' && sign <= 'z';
            boolean digit = sign >= '0' && sign <= '9';
            plan("turn" + sign, sign == ' ' ? NONE : sign == ';' ? 5 : letter ? 0 : 4);
            plan("1" + sign, sign == ' ' ? NONE : sign == ';' ? 2 : digit ? 0 : 1);
            plan("round" + sign + " 1 0", letter ? 0 : sign >= '0' && sign <= '2' ? 9 : sign == ' ' ? NONE : 5);
        }
        words.says("the 21st LINE at its first part.");
        plan("0;".repeat(20) + "0", 40);
        plan("0;".repeat(20) + "   phase 9", 43);
        plan("0;".repeat(20) + "nothing", 40);
        plan("0;".repeat(20) + " ;", 41);
        plan("0;".repeat(20) + "?", 40);
        plan("0;".repeat(20), 40);
        plan("0;".repeat(20) + "  ", 42);
        plan("0;".repeat(19) + "9;0", 38);
        plan("0;".repeat(19) + "1 1;0", 40);
    }

    // ---- promises 1 to 8 ----

    private void newObject() {
        words.promise(1);
        words.says("No COUNCIL, no PLAN.");
        RulerWord x = new RulerWord();
        words.is("rule(1)", x.rule(1), HIDDEN);
        words.is("rule(10)", x.rule(10), 0);
        words.is("round()", x.round(), NONE);
        words.is("line(0, 4)", line(x, 0, 4), -99);
        words.is("count(0)", x.count(0), 0);
        words.is("count(1)", x.count(1), 0);
        words.is("back()", x.back(), NONE);
        Due.feed(x, "king;size 3;phases 1;false 2;starts 001");
        x.council(1);
        x.round();
        words.is("without a plan a false one sends as a true one", x.heard(0, 0, 2, 0), 1);
    }

    private void feed() {
        words.promise(2);
        words.says("Twenty bytes more come to the TAPE (of each number the highest first; bytes of 0 are left out): "
            + "how many it has.");
        RulerWord x = new RulerWord();
        words.is("king;size 3;phases 2", x.feed(0x6b696e67, 0x3b73697a, 0x6520333b, 0x70686173, 0x65732032), 20);
        words.is("in this order", x.council(0), 3);
        words.is("in this order, to the last byte", x.rule(3), 2);
        for (int place = 0; place < 20; place++) {
            int[] n = new int[5];
            n[place / 4] = 'k' << 24 - place % 4 * 8;
            words.is("one byte at " + place, x.feed(n[0], n[1], n[2], n[3], n[4]), place + 1);
        }
        words.is("they stand side by side: one word", x.fault(0), 0);
        words.is("nothing", x.feed(0, 0, 0, 0, 0), 20);
        words.is("all bits", x.feed(-1, -1, -1, -1, -1), 40);
        x.end(0);
        words.is("0 between", x.feed('k', 'i', 'n' << 16, 'g' << 8, ';'), 5);
        words.is("left out", x.fault(0), 5);
        words.says("NONE: more than 500 (without these).");
        x = new RulerWord();
        for (int k = 1; k <= 25; k++) {
            words.is("feed", x.feed(0x20202020, 0x20202020, 0x20202020, 0x20202020, 0x20202020), 20 * k);
        }
        words.is("nothing at 500", x.feed(0, 0, 0, 0, 0), 500);
        words.is("twenty at 500", x.feed(0x6b696e67, 0x3b73697a, 0x6520333b, 0x70686173, 0x65732032), 520);
        words.is("one at 520", x.feed(0, 0, 0, 0, ';'), NONE);
        words.is("nothing at 520", x.feed(0, 0, 0, 0, 0), NONE);
        words.is("it stays", x.count(0), 520);
        words.is("all of it is read", x.fault(0), NONE);
        x.end(501);
        words.is("one at 501", x.feed(1, 0, 0, 0, 0), NONE);
        words.is("nothing at 501", x.feed(0, 0, 0, 0, 0), NONE);
        x.end(500);
        words.is("one at 500", x.feed(0, 0, 'k', 0, 0), 501);
        words.is("one more", x.feed(0, 0, 'k', 0, 0), NONE);
        x.end(499);
        words.is("twenty at 499", x.feed(-1, -1, -1, -1, -1), 519);
        words.is("at 519", x.feed(-1, -1, -1, -1, -1), NONE);
    }

    private void end() {
        words.promise(3);
        words.says("The TAPE has its first n bytes alone.");
        RulerWord x = new RulerWord();
        words.is("end(0) of nothing", x.end(0), true);
        Due.feed(x, "king;size 3;skip");
        words.is("end(16) of 16", x.end(16), true);
        words.is("all stays", x.count(0), 16);
        words.is("end(11)", x.end(11), true);
        words.is("eleven", x.count(0), 11);
        words.is("the first ones", x.fault(0), NONE);
        Due.feed(x, ";bound 4");
        words.is("more come behind these", x.council(0), 3);
        words.is("bound", x.rule(2), 4);
        words.is("not those that were", x.rule(6), 0);
        Due.feed(x, "king");
        words.is("end(0)", x.end(0), true);
        words.is("none", x.count(0), 0);
        words.says("False: n.");
        words.is("end(1) of nothing", x.end(1), false);
        Due.feed(x, "king");
        words.is("end(5) of 4", x.end(5), false);
        for (int n : FAR) {
            words.is("end(" + n + ")", x.end(n), false);
        }
        words.is("it stays", x.count(0), 4);
        words.is("end(4)", x.end(4), true);
    }

    private void fault() {
        words.promise(4);
        words.says("The FAULT of the TAPE as a COUNCIL (0), a PLAN (1).");
        RulerWord x = Due.of("queen;size 4;starts 1111", "1;2", 1);
        Due.feed(x, "king ? size 3");
        words.is("fault(0)", x.fault(0), 5);
        words.is("fault(1)", x.fault(1), 0);
        x.end(0);
        Due.feed(x, "1 ? 2");
        words.is("fault(0)", x.fault(0), 0);
        words.is("fault(1)", x.fault(1), 2);
        words.is("nothing changes: the tape", x.count(0), 5);
        words.is("nothing changes: the council", x.rule(1), 4);
        words.is("nothing changes: the plan", x.rule(10), 2);
        words.says("NONE: none;");
        x.end(1);
        words.is("fault(1)", x.fault(1), NONE);
        x.end(0);
        Due.feed(x, "king;size 9;bound 3");
        words.is("fault(0)", x.fault(0), NONE);
        words.is("a council that would do isn't taken by it", x.rule(1), 4);
        words.is("nor its bound", x.rule(2), 0);
        words.is("nor the tape", x.count(0), 19);
        words.says("-2: another what.");
        words.is("fault(2)", x.fault(2), -2);
        words.is("fault(2) of a new object", new RulerWord().fault(2), -2);
        for (int what : FAR) {
            words.is("fault(" + what + ")", x.fault(what), -2);
        }
    }

    private void council() {
        words.promise(5);
        words.says("The TAPE (empty then) is the COUNCIL, ahead of PHASE 0, and the SEED (nothing SAID, no ACTS, no IMAGE; "
            + "the PLAN stays): N.");
        for (int n = 3; n <= 9; n++) {
            RulerWord x = new RulerWord();
            Due.feed(x, "king;size " + n);
            words.is("council()", x.council(-n), n);
            words.is("the tape is empty then", x.count(0), 0);
        }
        RulerWord x = Due.of("king;size 4;starts 0111;false 3;phases 2", "1;draw", 7);
        x.say(0, 0, 3, 0, 1);
        x.run();
        x.image();
        Due.feed(x, "queen;size 5");
        words.is("another council", x.council(8), 5);
        words.is("ahead of phase 0", x.rule(7), 0);
        words.is("its round 0", x.rule(8), 0);
        words.is("no round gone", x.count(2), 0);
        words.is("nothing said", x.rule(11), 0);
        words.is("no acts", x.count(1), 0);
        words.is("none to undo", x.undo(), NONE);
        words.is("no image", x.back(), NONE);
        words.is("the plan stays", x.rule(10), 2);
        words.is("its lines, too", line(x, 1, 4), 6);
        words.is("starts", x.rule(4), 0);
        words.is("false ones", x.rule(5), 0);
        words.is("nothing heard", x.heard(0, 0, 0, 0), NONE);
        words.is("no letters", x.letters(0), 0);
        words.is("nobody suspects", x.most(0), NONE);
        theSeed();
        nothingIsLeft();
        words.says("NONE: a FAULT (all stays, the TAPE, too).");
        x = Due.of("king;size 4;starts 0111;false 3;phases 2", "0;draw", 7);
        x.say(1, 0, 3, 0, 1);
        x.round();
        x.image();
        x.round();
        String before = Due.everything(x);
        words.is("an empty tape", x.council(1), NONE);
        for (String text : new String[] {"king", "king;size 2", "queen;size 3;starts 00", "king;size 3;false 012", "1;2"}) {
            x.end(0);
            Due.feed(x, text);
            words.is("council() of " + text, x.council(99), NONE);
            words.is("the tape stays", x.count(0), text.length());
            words.is("all stays", Due.everything(x), before);
            words.is("the acts stay", x.count(1), 3);
        }
        words.is("the image stays", x.back(), 1);
        x.run();
        RulerWord y = Due.of("king;size 4;starts 0111;false 3;phases 2", "0;draw", 7);
        y.say(1, 0, 3, 0, 1);
        y.run();
        words.is("the seed stays", Due.everything(x), Due.everything(y));
    }

    /** Neither of a COUNCIL that was, nor of a text that was looked at, nor of one that had a FAULT. */
    private void nothingIsLeft() {
        String faulty = "king;size 4;bound 3;phases 6;starts 1111;false 012;skip;?";
        String good = "queen;size 9;bound 4;phases 6;starts 111111111;false 01234567;skip";
        int[] want = {1, 3, 0, 1, 0, 0, 0};
        for (int kind = 0; kind < 3; kind++) {
            RulerWord x = new RulerWord();
            Due.feed(x, kind == 1 ? faulty : good);
            words.is("kind " + kind, kind == 0 ? x.council(1) : x.fault(0), kind == 0 ? 9 : kind == 1 ? 56 : NONE);
            x.end(0);
            Due.feed(x, "queen;size 3");
            x.council(2);
            for (int k = 0; k < want.length; k++) {
                words.is("rule(" + k + ") behind kind " + kind, x.rule(k), want[k]);
            }
        }
    }

    /** The same text by two SEEDS: draws are by the SEED of the latest COUNCIL. */
    private void theSeed() {
        String text = "king;size 5;phases 3;false 24";
        RulerWord x = Due.of(text, "draw", 11);
        x.run();
        String first = Due.everything(x);
        Due.feed(x, text);
        x.council(12);
        x.run();
        words.is("another seed, other draws", Due.everything(x).equals(first), false);
        Due.feed(x, text);
        x.council(11);
        x.run();
        words.is("the same seed, the same draws", Due.everything(x), first);
    }

    private void plan() {
        words.promise(6);
        words.says("The TAPE (empty then) is the PLAN (for what is sent from now on; without a COUNCIL, too): how many LINES.");
        RulerWord x = new RulerWord();
        Due.feed(x, "0;1;2");
        words.is("without a council", x.plan(), 3);
        words.is("the tape is empty then", x.count(0), 0);
        words.is("rule(10)", x.rule(10), 3);
        Due.feed(x, "king;size 3;phases 1;false 2;starts 111");
        x.council(1);
        x.round();
        words.is("by the first plan", x.heard(0, 0, 2, 0), 0);
        Due.feed(x, "2");
        words.is("one line", x.plan(), 1);
        words.is("no second line any more", line(x, 1, 4), -99);
        words.is("what was sent stays", x.heard(0, 0, 2, 0), 0);
        x.round();
        words.is("from now on", x.heard(0, 1, 2, 0), 2);
        words.is("it is no act", x.count(1), 2);
        Due.tell(x, "phase 5 round 2 from 8 to 8 draw;phase 5 0");
        Due.tell(x, "2");
        for (int k = 0; k < 4; k++) {
            words.is("nothing of a line that was: line(0, " + k + ")", line(x, 0, k), NONE);
        }
        words.says("NONE: a FAULT (all stays, the TAPE, too).");
        String before = Due.everything(x);
        words.is("an empty tape", x.plan(), NONE);
        for (String text : new String[] {"0;1;3", "0;", "phase 6 0", "king;size 3", "0;".repeat(20) + "0"}) {
            x.end(0);
            Due.feed(x, text);
            words.is("plan() of " + text, x.plan(), NONE);
            words.is("the tape stays", x.count(0), text.length());
            words.is("rule(10) stays", x.rule(10), 1);
            words.is("its line stays", line(x, 0, 4), 2);
            words.is("all stays", Due.everything(x), before);
        }
    }

    private void rule() {
        words.promise(7);
        words.says("0 FORM (0 kings, 1 queens), 1 N, 2 T, 3 P, 4 STARTS, 5 FALSE ones (bits), 6 skip (1, 0), ");
        int[] want = {0, 9, 3, 6, 341, 258, 0};
        int[] wantQueens = {1, 4, 0, 2, 6, 9, 1};
        for (int k = 0; k < 7; k++) {
            rule("king;size 9;bound 3;phases 6;starts 101010101;false 18", k, want[k]);
            rule("queen;size 4;bound 0;phases 2;starts 0110;false 03;skip", k, wantQueens[k]);
        }
        RulerWord x = Due.of("queen;size 4;starts 0110;false 03", "1;2;0", 1);
        x.starts(9);
        x.falseOnes(6);
        words.is("other starts", x.rule(4), 9);
        words.is("other false ones", x.rule(5), 6);
        x = Due.of("king;size 4;starts 0111;false 3");
        x.run();
        words.is("all hold 1 now", Due.holds(x), 15);
        words.is("the starts stay", x.rule(4), 14);
        words.is("the false ones stay", x.rule(5), 8);
        words.says("7 the PHASE that the next ROUND is of, 8 that ROUND (P, 0: it is over), 9 ROUNDS of a PHASE, ");
        for (String form : new String[] {"king", "queen"}) {
            int rounds = form.equals("king") ? 3 : 2;
            x = Due.of(form + ";size 3;phases 6");
            words.is("rule(9)", x.rule(9), rounds);
            for (int gone = 0; gone <= 6 * rounds; gone++) {
                words.is("rule(7)", x.rule(7), gone / rounds);
                words.is("rule(8)", x.rule(8), gone % rounds);
                x.round();
            }
            words.is("over: P", x.rule(7), 6);
            words.is("over: 0", x.rule(8), 0);
        }
        words.says("10 LINES of the PLAN, 11 how many were SAID.");
        x = Due.of("queen;size 4;starts 0110;false 03", "1;2;0", 1);
        words.is("rule(10)", x.rule(10), 3);
        words.is("rule(11)", x.rule(11), 0);
        x.say(0, 0, 0, 0, 0);
        x.say(0, 0, 1, 0, 0);
        x.say(0, 0, 0, 0, 0);
        words.is("rule(11)", x.rule(11), 2);
        words.says("HIDDEN: no COUNCIL (but 10), no such what.");
        RulerWord y = new RulerWord();
        for (int k = 0; k <= 12; k++) {
            words.is("no council: rule(" + k + ")", y.rule(k), k == 10 ? 0 : HIDDEN);
        }
        Due.tell(y, "0;1");
        words.is("no council: rule(10) of a plan", y.rule(10), 2);
        words.is("rule(12)", x.rule(12), HIDDEN);
        for (int k : FAR) {
            words.is("rule(" + k + ")", x.rule(k), HIDDEN);
            words.is("no council: rule(" + k + ")", y.rule(k), HIDDEN);
        }
    }

    private void line() {
        words.promise(8);
        words.says("Of a LINE: 0 phase, 1 round, 2 from, 3 to (NONE: not told), 4 0 to 2 that LETTER, 3 same, 4 turn, 5 split, "
            + "6 draw.");
        RulerWord x = new RulerWord();
        Due.tell(x, "phase 5 round 2 from 7 to 8 0;phase 0 1;round 0 2;from 0 same;to 0 turn;split;draw");
        int[][] want = {{5, 2, 7, 8, 0}, {0, -1, -1, -1, 1}, {-1, 0, -1, -1, 2}, {-1, -1, 0, -1, 3},
            {-1, -1, -1, 0, 4}, {-1, -1, -1, -1, 5}, {-1, -1, -1, -1, 6}};
        for (int i = 0; i < want.length; i++) {
            for (int k = 0; k < 5; k++) {
                words.is("line(" + i + ", " + k + ")", line(x, i, k), want[i][k]);
            }
        }
        words.says("NoSuchElementException: no such ones.");
        for (int k = 0; k < 5; k++) {
            words.is("no plan: line(0, " + k + ")", line(new RulerWord(), 0, k), -99);
            words.is("line(7, " + k + ")", line(x, 7, k), -99);
        }
        for (int far : FAR) {
            words.is("line(" + far + ", 0)", line(x, far, 0), -99);
            words.is("line(0, " + far + ")", line(x, 0, far), -99);
            words.is("line(" + far + ", " + far + ")", line(x, far, far), -99);
        }
        words.is("line(0, 5)", line(x, 0, 5), -99);
        words.is("line(6, 5)", line(x, 6, 5), -99);
        Due.tell(x, "0;".repeat(19) + "2");
        words.is("the 20th", line(x, 19, 4), 2);
        words.is("the 21st", line(x, 20, 4), -99);
    }
}
