import java.util.NoSuchElementException;

/** Promises 1 to 8: a new object, the TAPE, the COUNCIL and the PLAN as texts. */
public final class TextsTest {
    private static final int NONE = RulerWord.NONE;
    private static final int HIDDEN = RulerWord.HIDDEN;
    private static final Due DUE = new Due("TextsTest");

    public static void main(String[] args) {
        promise1();
        promise2();
        promise3();
        promise4council();
        promise4plan();
        promise5();
        promise6();
        promise7();
        promise8();
        DUE.end();
    }

    private static void promise1() {
        RulerWord x = new RulerWord();
        for (int k = 0; k < 12; k++) {
            DUE.is("new: rule(" + k + ")", x.rule(k), k == 10 ? 0 : HIDDEN);
        }
        for (int k = 0; k < 3; k++) {
            DUE.is("new: count(" + k + ")", x.count(k), 0);
        }
        for (int k = 0; k < 5; k++) {
            DUE.is("new: status(" + k + ")", x.status(k), 0);
        }
        DUE.is("new: undo()", x.undo(), NONE);
        DUE.is("new: back()", x.back(), NONE);
    }

    private static void promise2() {
        RulerWord x = new RulerWord();
        DUE.is("feed of bytes with 0", x.feed(0x6b00696e, 0x67000000, 0, 0x3b, 0), 5);
        DUE.is("'king;' is fed, the highest byte first", x.fault(0), 5);
        DUE.is("feed of nothing", x.feed(0, 0, 0, 0, 0), 5);
        DUE.is("feed goes on behind", x.feed(0x73697a65, 0x33000000, 0, 0, 0), 10);
        DUE.is("'king;size3'", x.fault(0), NONE);
        DUE.is("feed of high bytes", x.feed(0xffffffff, 0x80808080, 0, 0, 0), 18);
        DUE.is("bytes above 127 are others", x.fault(0), 10);
        x.end(0);
        for (int k = 1; k <= 25; k++) {
            DUE.is("feed " + k, x.feed(0x30303030, 0x30303030, 0x30303030, 0x30303030, 0x30303030), 20 * k);
        }
        DUE.is("feed at 500", x.feed(0x31313131, 0x31313131, 0x31313131, 0x31313131, 0x31313131), 520);
        DUE.is("feed at 520", x.feed(0x31000000, 0, 0, 0, 0), NONE);
        DUE.is("feed of nothing at 520", x.feed(0, 0, 0, 0, 0), NONE);
        DUE.is("count(0) at 520", x.count(0), 520);
        DUE.is("end(501)", x.end(501), true);
        DUE.is("feed at 501", x.feed(0x31000000, 0, 0, 0, 0), NONE);
        DUE.is("end(500)", x.end(500), true);
        DUE.is("feed one at 500", x.feed(0, 0, 0, 0, 1), 501);
    }

    private static void promise3() {
        RulerWord x = new RulerWord();
        DUE.is("end(0) of nothing", x.end(0), true);
        DUE.is("end(1) of nothing", x.end(1), false);
        DUE.is("end(-1)", x.end(-1), false);
        Due.feed(x, "king;size 3;bound 1");
        DUE.is("end(20) of 19", x.end(20), false);
        DUE.is("end(max)", x.end(Integer.MAX_VALUE), false);
        DUE.is("end(min)", x.end(Integer.MIN_VALUE), false);
        DUE.is("count stays", x.count(0), 19);
        DUE.is("end(19) of 19", x.end(19), true);
        DUE.is("end(11)", x.end(11), true);
        DUE.is("count(0)", x.count(0), 11);
        DUE.is("its first bytes", x.fault(0), NONE);
        Due.feed(x, ";skip");
        DUE.is("fed behind the cut", x.council(0), 3);
        DUE.is("skip behind the cut", x.rule(6), 1);
    }

    private static void council(String text, int want) {
        DUE.is("fault(0) of '" + text + "'", Due.fault(0, text), want);
    }

    private static void promise4council() {
        council("king;size 3", NONE);
        council("  queen  ;  size  9  ", NONE);
        council("queen;skip;bound4;size9;phases6;false01234567;starts010101010", NONE);
        council("king;size 3;false 12", NONE);
        council("   ", 3);
        council("king ", 5);
        council("king;", 5);
        council("king;  ", 7);
        council("king;;size 3", 5);
        council(";king;size 3", 0);
        council("king size 3", 5);
        council("king;size", 9);
        council("king;size ", 10);
        council("king;size;bound 1", 9);
        council("king;size x", 10);
        council("king;size 3 4", 12);
        council("king;size 33", 10);
        council("king;size 03", 10);
        council("king;size 2", 10);
        council("king;size 3size 4", 11);
        council("king;size 3;king", 12);
        council("queen;size 3;queen", 13);
        council("queen;size 3;king", 13);
        council("kingsize 3", 0);
        council("bing;size 3", 0);
        council("king;tize 3", 5);
        council("King;size 3", 0);
        council("king;Size 3", 5);
        council("king;sizes 3", 5);
        council("king;siz 3", 5);
        council("3;size 3", 0);
        council("king;3", 5);
        council("king;bound 5;size 3", 11);
        council("king;bound 4;size 3", NONE);
        council("king;bound 1;bound 1;size 3", 13);
        council("king;bound 1", 12);
        council("king;skip", 9);
        council("king;phases 7;size 3", 12);
        council("king;phases 0;size 3", 12);
        council("king;phases 6;size 3", NONE);
        council("king;phases 1;phases 1;size 3", 14);
        council("king;false 0;size 3", 5);
        council("king;starts 000;size 3", 5);
        council("king;size 3;starts", 18);
        council("king;size 3;starts ;skip", 19);
        council("king;size 3;starts 0 00", 19);
        council("king;size 3;starts 0000", 19);
        council("king;size 3;starts 002", 19);
        council("king;size 3;starts 000;starts 000", 23);
        council("king;size 3;false", 17);
        council("king;size 3;false;skip", 17);
        council("king;size 3;false 00", 18);
        council("king;size 3;false 10", 18);
        council("king;size 3;false 03", 18);
        council("king;size 3;false 0;false 1", 20);
        council("king;size 4;false 0123", 18);
        council("king;size 4;false 123", NONE);
        council("king;size 3;skip 1", 17);
        council("king;size 3\tskip", 11);
        council("king;size 3:", 11);
        council("king;size 3;skip;bound 1;phases 2;starts 000;false 0;skip", 53);
        council("king;size 3;skip;bound 1;phases 2;starts 000;false 0;", 53);
        DUE.is("fault(2)", Due.fault(2, "king;size 3"), -2);
        DUE.is("fault(-1)", Due.fault(-1, "king;size 3"), -2);
    }

    private static void plan(String text, int want) {
        DUE.is("fault(1) of '" + text + "'", Due.fault(1, text), want);
    }

    private static void promise4plan() {
        plan("0", NONE);
        plan(" 2 ; same;turn ;split;draw", NONE);
        plan("phase5round2from8to8draw", NONE);
        plan("phase 0 1", NONE);
        plan("", 0);
        plan("  ", 2);
        plan(";0", 0);
        plan("0;", 2);
        plan("0;;1", 2);
        plan("0; ", 3);
        plan("00", 0);
        plan("3", 0);
        plan("phase", 5);
        plan("phase 0", 7);
        plan("phase 6 0", 6);
        plan("phase 00", 6);
        plan("phase ;0", 6);
        plan("round 2 1", NONE);
        plan("round 3 1", 6);
        plan("from 8 1", NONE);
        plan("from 9 1", 5);
        plan("to 9 1", 3);
        plan("to 1 from 1 0", 5);
        plan("round 1 phase 1 0", 8);
        plan("phase 1 phase 1 0", 8);
        plan("same 0", 5);
        plan("same same", 5);
        plan("samed", 0);
        plan("0 1", 2);
        plan("0,1", 1);
        plan("from 1 to 2 3", 12);
        plan("from 1 to 2 ;", 12);
        plan("turn;split;nothing", 11);
        plan("0;".repeat(19) + "1", NONE);
        plan("0;".repeat(20), 40);
        plan("0;".repeat(20) + " phase 1 2", 41);
        plan("0;".repeat(20) + "   ", 43);
        plan("0;".repeat(19) + "1 1;2", 40);
    }

    private static void promise5() {
        RulerWord x = Due.of("king;size 4;starts 0111;false 3", "draw", 7);
        x.say(0, 0, 3, 0, 1);
        x.round();
        x.image();
        Due.feed(x, "king;size 4;");
        DUE.is("council of a fault", x.council(1), NONE);
        DUE.is("the tape stays", x.count(0), 12);
        DUE.is("the rounds stay", x.count(2), 1);
        DUE.is("the acts stay", x.count(1), 2);
        DUE.is("the image stays", x.back(), 1);
        x.end(11);
        x.round();
        DUE.is("an act ahead of it", x.count(1), 1);
        DUE.is("council anew", x.council(1), 4);
        DUE.is("the tape is empty", x.count(0), 0);
        DUE.is("nothing said", x.rule(11), 0);
        DUE.is("no acts", x.count(1), 0);
        DUE.is("undo()", x.undo(), NONE);
        DUE.is("no image", x.back(), NONE);
        DUE.is("ahead of phase 0", x.count(2), 0);
        DUE.is("the plan stays", x.rule(10), 1);
        DUE.is("starts are all 0", x.rule(4), 0);
        DUE.is("none false", x.rule(5), 0);
        DUE.is("an empty tape is no council", x.council(1), NONE);
        x.say(9, 0, 0, 0, 0);
        Due.feed(x, "queen;size 9");
        DUE.is("council of queens", x.council(Long.MIN_VALUE), 9);
        DUE.is("what was refused stays", x.status(1), 1);
        anew();
    }

    /** Nothing of a COUNCIL is left in the next one. */
    private static void anew() {
        String[] councils = {"king;size 9;bound 3;phases 6;starts 110110101;false 0258;skip",
            "queen;size 3;phases 4;starts 110;false 1;bound 1", "king;size 4;starts 0111",
            "queen;size 9;phases 5;starts 110110101;false 0258;bound 0", "king;size 5;bound 2;starts 01010;false 4;phases 6"};
        RulerWord x = new RulerWord();
        Due.tell(x, "draw");
        for (int k = 0; k < 12; k++) {
            String council = councils[k * 7 % 5];
            Due.feed(x, council);
            x.council(k);
            RulerWord y = Due.of(council, "draw", k);
            for (int step = 0; step < 3; step++) {
                DUE.is(council + " behind others", Due.everything(x), Due.everything(y));
                for (int round = 0; round < 1 + 4 * step; round++) {
                    DUE.is("round()", x.round(), y.round());
                }
            }
            DUE.is(council + " behind others", Due.everything(x), Due.everything(y));
        }
    }

    private static void promise6() {
        RulerWord x = new RulerWord();
        DUE.is("an empty tape is no plan", x.plan(), NONE);
        Due.feed(x, "0;1;phase 2 draw");
        DUE.is("plan without a council", x.plan(), 3);
        DUE.is("the tape is empty", x.count(0), 0);
        Due.feed(x, "0;1;phase 6 draw");
        DUE.is("plan of a fault", x.plan(), NONE);
        DUE.is("the tape stays", x.count(0), 16);
        DUE.is("the plan stays", x.rule(10), 3);
        DUE.is("a line stays", x.line(2, 0), 2);
        x.end(0);
        Due.feed(x, "0;".repeat(19) + "2");
        DUE.is("twenty lines", x.plan(), 20);
        x = Due.of("queen;size 3;phases 2;false 2", "0", 1);
        x.round();
        Due.tell(x, "1");
        x.run();
        DUE.is("by the old plan", x.heard(0, 0, 2, 0), 0);
        DUE.is("by the new plan", x.heard(1, 0, 2, 0), 1);
        DUE.is("a plan is no act", x.count(1), 4);
    }

    private static void rules(String council, int... want) {
        RulerWord x = Due.of(council);
        for (int k = 0; k < want.length; k++) {
            DUE.is("rule(" + k + ") of '" + council + "'", x.rule(k), want[k]);
        }
    }

    private static void promise7() {
        rules("king;size 3", 0, 3, 0, 1, 0, 0, 0, 0, 0, 3, 0, 0);
        rules("king;size 4", 0, 4, 1, 2);
        rules("king;size 7;starts 1000001", 0, 7, 2, 3, 65);
        rules("king;size 9;false 08", 0, 9, 2, 3, 0, 257);
        rules("queen;size 4", 1, 4, 0, 1, 0, 0, 0, 0, 0, 2);
        rules("queen;size 5;skip", 1, 5, 1, 2, 0, 0, 1);
        rules("queen;size 9", 1, 9, 2, 3);
        rules("queen;bound 4;size 9", 1, 9, 4, 5);
        rules("queen;phases 2;bound 4;size 9", 1, 9, 4, 2);
        RulerWord x = Due.of("queen;size 5", "draw;same", 1);
        x.round();
        DUE.is("rule(7) behind a round", x.rule(7), 0);
        DUE.is("rule(8) behind a round", x.rule(8), 1);
        x.round();
        DUE.is("rule(7) behind two", x.rule(7), 1);
        DUE.is("rule(8) behind two", x.rule(8), 0);
        x.run();
        DUE.is("rule(7) when it is over", x.rule(7), 2);
        DUE.is("rule(8) when it is over", x.rule(8), 0);
        DUE.is("rule(10)", x.rule(10), 2);
        DUE.is("rule(12)", x.rule(12), HIDDEN);
        DUE.is("rule(-1)", x.rule(-1), HIDDEN);
    }

    private static int line(RulerWord x, int i, int what) {
        try {
            return x.line(i, what);
        } catch (NoSuchElementException e) {
            return -99;
        }
    }

    private static void promise8() {
        RulerWord x = new RulerWord();
        DUE.is("line(0, 0) of no plan", line(x, 0, 0), -99);
        Due.tell(x, "phase 5 round 2 from 7 to 8 0;1;to 3 2;same;from 1 turn;round 0 split;phase 0 draw");
        int[][] want = {{5, 2, 7, 8, 0}, {-1, -1, -1, -1, 1}, {-1, -1, -1, 3, 2}, {-1, -1, -1, -1, 3},
            {-1, -1, 1, -1, 4}, {-1, 0, -1, -1, 5}, {0, -1, -1, -1, 6}};
        for (int i = 0; i < want.length; i++) {
            for (int k = 0; k < 5; k++) {
                DUE.is("line(" + i + ", " + k + ")", line(x, i, k), want[i][k]);
            }
        }
        DUE.is("line(7, 0)", line(x, 7, 0), -99);
        DUE.is("line(-1, 0)", line(x, -1, 0), -99);
        DUE.is("line(0, 5)", line(x, 0, 5), -99);
        DUE.is("line(0, -1)", line(x, 0, -1), -99);
        Due.tell(x, "2");
        DUE.is("line(0, 0) of a new plan", line(x, 0, 0), NONE);
        DUE.is("line(1, 0) of a new plan", line(x, 1, 0), -99);
    }
}
