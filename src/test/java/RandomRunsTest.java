/** All promises: long runs of calls, right ones and wrong ones, against the reference. */
public final class RandomRunsTest {
    private static final int RUNS = 120;
    private static final int CALLS = 60;
    private static final String[] CHANGES = {"founder", "child", "marker", "rate", "see", "see", "see", "unsee"};
    private static final String[] QUESTIONS = {
        "count", "origin", "fit", "joint", "odds", "would", "best", "turned", "shared", "likely",
        "length", "charAt"
    };

    public static void main(String[] args) {
        Check check = new Check();
        for (int run = 0; run < RUNS; run++) {
            Dice dice = new Dice(run);
            Pair pair = new Pair(check);
            for (int call = 0; call < CALLS; call++) {
                askAny(pair, dice);
            }
            pair.askForPage();
        }
        check.end();
    }

    static void askAny(Pair pair, Dice dice) {
        boolean change = dice.below(5) < 3;
        String[] names = change ? CHANGES : QUESTIONS;
        askOne(pair, dice, names[dice.below(names.length)]);
    }

    private static void askOne(Pair pair, Dice dice, String name) {
        int persons = pair.reference.count(0);
        int markers = pair.reference.count(3);
        int gaps = Math.max(0, markers - 1);
        int bits = 2 * pair.reference.count(2);
        int ways = pair.reference.count(4);
        switch (name) {
            case "founder", "joint", "length" -> pair.ask(name);
            case "child" -> pair.ask(name, dice.about(persons), dice.about(persons));
            case "marker" -> askMarker(pair, dice);
            case "rate", "would" -> pair.ask(name, dice.about(gaps), dice.about(9));
            case "see" -> pair.ask(name, dice.about(persons), dice.about(markers), letter(dice), letter(dice));
            case "unsee" -> pair.ask(name, dice.about(persons), dice.about(markers));
            case "count" -> pair.ask(name, dice.about(6));
            case "origin" -> pair.ask(name, dice.about(persons), dice.about(2), dice.about(ways));
            case "fit" -> pair.ask(name, dice.about(markers), dice.about(ways));
            case "odds" -> pair.ask(name, dice.about(1002));
            case "best" -> pair.ask(name, dice.about(gaps));
            case "turned" -> pair.ask(name, dice.about(markers), dice.about(bits));
            case "shared" -> pair.ask(name, dice.about(markers), dice.about(persons), dice.about(persons));
            case "likely" -> pair.ask(name, dice.about(markers));
            default -> pair.ask(name, dice.about(46));
        }
    }

    private static int letter(Dice dice) {
        return dice.below(20) == 0 ? dice.about(5) : 1 + dice.below(3);
    }

    private static void askMarker(Pair pair, Dice dice) {
        int one = dice.about(9);
        int two = dice.about(Math.max(1, 9 - Math.max(0, Math.min(8, one))));
        int three = dice.below(10) == 0 ? dice.about(9) : 8 - one - two;
        pair.ask("marker", one, two, three);
    }
}
