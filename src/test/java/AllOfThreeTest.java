/** Promises 23 and 24: every COUNCIL of three PEERS that may be asked, from all STARTS, held against Model's plain tries. */
public final class AllOfThreeTest {
    private static final Due DUE = new Due("AllOfThreeTest");

    public static void main(String[] args) {
        for (String form : new String[] {"king", "queen"}) {
            for (int rest = 0; rest < 5 * 6 * 2 * 7; rest++) {
                int falses = rest / 60;
                String council = form + ";size 3;bound " + rest % 5 + ";phases " + (1 + rest / 5 % 6)
                    + (rest / 30 % 2 == 1 ? ";skip" : "");
                allStarts(council, falses);
            }
        }
        DUE.end();
    }

    private static void allStarts(String council, int falses) {
        RulerWord x = Due.of(council);
        x.falseOnes(falses);
        if (x.free() > 12) {
            DUE.is(council + ": broken() is not asked", x.broken(), -2);
            return;
        }
        Model model = new Model();
        Model.Rules rules = Model.readCouncil(council);
        rules.isFalse = Model.set(3, falses);
        int many = 0;
        int least = RulerWord.NONE;
        for (int starts = 7; starts >= 0; starts--) {
            rules.starts = Model.digits(3, starts);
            int number = model.least(rules);
            x.starts(starts);
            DUE.is(council + ", false " + falses + ", starts " + starts + ": broken()", x.broken(), number);
            many += number >= 0 ? 1 : 0;
            least = number >= 0 ? starts : least;
        }
        DUE.is(council + ", false " + falses + ": brokenStarts(0)", x.brokenStarts(0), many);
        DUE.is(council + ", false " + falses + ": brokenStarts(1)", x.brokenStarts(1), least);
    }
}
