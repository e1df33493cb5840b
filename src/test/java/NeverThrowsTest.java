import java.lang.reflect.InvocationTargetException;
import java.lang.reflect.Method;
import java.lang.reflect.Modifier;
import java.util.NoSuchElementException;

/** Rule 7 of LANGUAGE.md: no call throws, for any arguments in any state, but line() what the document names. */
public final class NeverThrowsTest {
    private static final int[] NUMBERS = {Integer.MIN_VALUE, -1000000, -2, -1, 0, 1, 2, 3, 4, 5, 6, 8, 9, 19, 20, 31, 32, 511, 512,
        4096, 1 << 30, Integer.MAX_VALUE};
    private static final int[] FEWER = {Integer.MIN_VALUE, -1, 0, 1, 2, 5, 8, 9, Integer.MAX_VALUE};
    private static final long[] SEEDS = {Long.MIN_VALUE, -1, 0, Long.MAX_VALUE};
    private static final Due DUE = new Due("NeverThrowsTest");

    public static void main(String[] args) throws IllegalAccessException {
        for (int state = 0; state < 10; state++) {
            for (Method method : RulerWord.class.getDeclaredMethods()) {
                if (Modifier.isPublic(method.getModifiers())) {
                    calls(state, method);
                }
            }
        }
        DUE.end();
    }

    /** New, with a PLAN, ahead of all, within, over, undone, with an IMAGE; a full TAPE; all that can be SAID. */
    private static RulerWord made(int state) {
        String[] councils = {"king;size 3;bound 4;phases 6;starts 010;false 12", "queen;size 9;bound 4;phases 6;false 01234567;skip",
            "king;size 9;phases 6;false 0;starts 101010101;skip", "queen;size 3;bound 1;phases 4;false 0;skip"};
        RulerWord x = new RulerWord();
        if (state == 0) {
            return x;
        }
        Due.tell(x, "phase 5 round 2 from 8 to 8 0;".repeat(14) + "turn;phase 0 split;draw;same;2;draw");
        if (state == 1) {
            return x;
        }
        Due.feed(x, councils[state % 4]);
        x.council(Long.MIN_VALUE);
        for (int k = 0; k < 30 && state >= 6; k++) {
            x.say(5, 1, k % 8, 8, 2);
            x.say(k % 4, 0, 0, 0, 1);
        }
        for (int k = 0; k < 2 * state - 4; k++) {
            x.round();
        }
        x.image();
        if (state >= 8) {
            x.run();
            Due.feed(x, " ".repeat(520));
        }
        if (state % 2 == 1) {
            x.undo();
        }
        return x;
    }

    /** All rows of arguments out of the numbers (fewer of these for a call that takes more). */
    private static void calls(int state, Method method) throws IllegalAccessException {
        Class<?>[] kinds = method.getParameterTypes();
        int[] numbers = kinds.length > 2 ? FEWER : NUMBERS;
        int rows = 1;
        for (int k = 0; k < kinds.length; k++) {
            rows *= numbers.length;
        }
        RulerWord x = made(state);
        for (int row = 0; row < rows; row++) {
            Object[] values = new Object[kinds.length];
            int rest = row;
            for (int k = 0; k < kinds.length; k++) {
                int place = rest % numbers.length;
                rest /= numbers.length;
                if (kinds[k] == long.class) {
                    values[k] = SEEDS[place % SEEDS.length];
                } else {
                    values[k] = numbers[place];
                }
            }
            call(x, method, values, state);
        }
    }

    private static void call(RulerWord x, Method method, Object[] values, int state) throws IllegalAccessException {
        try {
            method.invoke(x, values);
        } catch (InvocationTargetException e) {
            boolean named = method.getName().equals("line") && e.getCause().getClass() == NoSuchElementException.class;
            if (!named) {
                DUE.is("state " + state + ": " + method.getName() + java.util.Arrays.toString(values) + " throws " + e.getCause(),
                    true, false);
            }
        }
    }
}
