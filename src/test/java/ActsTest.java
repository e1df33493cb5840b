import java.util.ArrayDeque;
import java.util.Deque;

/** Promises 34 to 37 and 39: ACTS undone, the IMAGE, what was refused, counts. */
public final class ActsTest {
    private static final int NONE = RulerWord.NONE;
    private static final Due DUE = new Due("ActsTest");
    private static final String COUNCIL = "queen;size 4;bound 1;phases 6;starts 0101;false 02;skip";

    public static void main(String[] args) {
        promise34();
        onlyTwenty();
        promise35();
        promise36();
        promise37();
        promise39();
        DUE.end();
    }

    /** Acts of all kinds, each then undone: all is as it was ahead of it. */
    private static void promise34() {
        DUE.is("no council", new RulerWord().undo(), NONE);
        RulerWord x = Due.of(COUNCIL, "draw", 5);
        DUE.is("no acts", x.undo(), NONE);
        Deque<String> were = new ArrayDeque<>();
        for (int k = 0; k < 18; k++) {
            were.push(Due.everything(x));
            switch (k) {
                case 0, 3, 9 -> x.say(5, 0, 2, k % 4, 2);
                case 1 -> x.starts(6);
                case 2 -> x.falseOnes(12);
                case 4 -> x.falseOnes(8);
                case 5 -> x.falseOnes(4);
                case 6 -> x.starts(9);
                default -> x.round();
            }
            DUE.is("acts", x.count(1), were.size());
        }
        for (int k = 17; k >= 0; k--) {
            DUE.is("undo()", x.undo(), k);
            DUE.is("all ahead of act " + k, Due.everything(x), were.pop());
        }
        DUE.is("none is left", x.undo(), NONE);
        x.run();
        RulerWord y = Due.of(COUNCIL, "draw", 5);
        y.run();
        DUE.is("the draws are so again", Due.everything(x), Due.everything(y));
        x.undo();
        Due.tell(x, "1");
        x.undo();
        DUE.is("a plan isn't undone", x.line(0, 4), 1);
        x.starts(-1);
        x.say(0, 0, 0, 0, 9);
        DUE.is("what was refused is no act", x.count(1), 10);
    }

    private static void onlyTwenty() {
        RulerWord x = Due.of(COUNCIL, "turn", 5);
        for (int k = 1; k <= 30; k++) {
            x.starts(k % 16);
            DUE.is("acts", x.count(1), Math.min(k, 20));
        }
        for (int k = 19; k >= 0; k--) {
            DUE.is("undo()", x.undo(), k);
        }
        DUE.is("the 21st", x.undo(), NONE);
        DUE.is("the starts of the tenth", x.rule(4), 10);
        for (int k = 0; k < 15; k++) {
            x.starts(k);
        }
        x.run();
        DUE.is("each round of a run", x.count(1), 20);
        for (int k = 0; k < 12; k++) {
            x.undo();
        }
        DUE.is("all rounds undone", x.count(2), 0);
        DUE.is("acts ahead of them", x.count(1), 8);
        x.undo();
        DUE.is("the starts ahead", x.rule(4), 13);
    }

    private static void promise35() {
        DUE.is("no council", new RulerWord().image(), NONE);
        RulerWord x = Due.of(COUNCIL, "draw", 5);
        DUE.is("image() ahead", x.image(), 0);
        x.round();
        x.round();
        DUE.is("image()", x.image(), 2);
        DUE.is("an image is no act", x.count(1), 2);
        x.run();
        DUE.is("back() to the later one", x.back(), 2);
    }

    private static void promise36() {
        RulerWord x = Due.of(COUNCIL, "draw", 5);
        DUE.is("no image", x.back(), NONE);
        x.say(1, 0, 2, 1, 2);
        x.starts(3);
        x.round();
        String then = Due.everything(x);
        x.image();
        x.say(2, 0, 2, 1, 2);
        x.run();
        String later = Due.everything(x);
        for (int k = 0; k < 14; k++) {
            x.undo();
        }
        x.falseOnes(1);
        x.starts(0);
        Due.tell(x, "split");
        x.run();
        Due.tell(x, "draw");
        DUE.is("back()", x.back(), 1);
        DUE.is("all it keeps", Due.everything(x), then);
        DUE.is("no act", x.count(1), 0);
        DUE.is("undo()", x.undo(), NONE);
        x.say(2, 0, 2, 1, 2);
        x.run();
        DUE.is("the draws, too", Due.everything(x), later);
        x.undo();
        x.image();
        String late = Due.everything(x);
        for (int k = 0; k < 12; k++) {
            x.undo();
        }
        Due.tell(x, "turn");
        x.run();
        DUE.is("back() behind another run", x.back(), 11);
        DUE.is("all that was heard and held", Due.everything(x), late);
        DUE.is("back() again", x.back(), 11);
        DUE.is("all it keeps, again", Due.everything(x), late);
    }

    private static void promise37() {
        RulerWord x = new RulerWord();
        x.say(0, 0, 0, 0, 0);
        x.starts(0);
        x.falseOnes(0);
        DUE.is("status(0)", x.status(0), 3);
        Due.feed(x, COUNCIL);
        x.council(1);
        x.say(6, 0, 0, 0, 0);
        x.starts(16);
        x.falseOnes(15);
        x.say(0, 0, 1, 0, 0);
        x.image();
        x.round();
        x.say(0, 0, 0, 0, 0);
        x.starts(0);
        x.falseOnes(0);
        x.undo();
        x.back();
        int[] want = {3, 3, 1, 3, 0};
        for (int k = 0; k < 5; k++) {
            DUE.is("status(" + k + ")", x.status(k), want[k]);
        }
        DUE.is("status(5)", x.status(5), NONE);
        DUE.is("status(-1)", x.status(-1), NONE);
    }

    private static void promise39() {
        RulerWord x = Due.of(COUNCIL);
        Due.feed(x, "king");
        x.starts(1);
        x.round();
        DUE.is("count(0)", x.count(0), 4);
        DUE.is("count(1)", x.count(1), 2);
        DUE.is("count(2)", x.count(2), 1);
        DUE.is("count(3)", x.count(3), NONE);
        DUE.is("count(-1)", x.count(-1), NONE);
    }
}
