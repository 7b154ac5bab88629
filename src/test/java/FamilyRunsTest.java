/**
 * Promises 9 to 17: families of all sizes, each seen with letters that came down in it (so that JOINT
 * is seldom 0), and every question asked against the reference.
 */
public final class FamilyRunsTest {
    private static final int RUNS = 100;
    private static final long LARGEST_WALK = 5000;

    public static void main(String[] args) {
        Check check = new Check();
        for (int run = 0; run < RUNS; run++) {
            Dice dice = new Dice(1000 + run);
            Pair pair = new Pair(check);
            makeFamily(pair, dice, 1 + run % 3, dice.below(4));
            makeMarkers(pair, dice, 1 + dice.below(4));
            for (int m = 0; m < pair.reference.count(3); m++) {
                seeSome(pair, dice, m);
            }
            askAll(pair, dice);
            walkPaths(check, pair);
        }
        check.end();
    }

    private static void makeFamily(Pair pair, Dice dice, int founders, int children) {
        pair.ask("founder");
        int foundersLeft = founders - 1;
        int childrenLeft = children;
        while (foundersLeft + childrenLeft > 0) {
            if (dice.below(foundersLeft + childrenLeft) < foundersLeft) {
                pair.ask("founder");
                foundersLeft--;
            } else {
                int persons = pair.reference.count(0);
                pair.ask("child", dice.below(persons), dice.below(persons));
                childrenLeft--;
            }
        }
    }

    private static void makeMarkers(Pair pair, Dice dice, int markers) {
        for (int m = 0; m < markers; m++) {
            int one = 1 + dice.below(5);
            int two = 1 + dice.below(7 - one);
            pair.ask("marker", one, two, 8 - one - two);
        }
        for (int gap = 0; gap < markers - 1; gap++) {
            pair.ask("rate", gap, dice.below(9));
        }
    }

    private static void seeSome(Pair pair, Dice dice, int marker) {
        int way = dice.below(pair.reference.count(4));
        int[] letters = new int[6];
        for (int c = 0; c < letters.length; c++) {
            letters[c] = 1 + dice.below(3);
        }
        for (int person = 0; person < pair.reference.count(0); person++) {
            if (dice.below(3) > 0) {
                int one = letters[pair.reference.origin(person, 0, way)];
                int other = letters[pair.reference.origin(person, 1, way)];
                boolean swap = dice.below(2) == 0;
                pair.ask("see", person, marker, swap ? other : one, swap ? one : other);
            }
        }
    }

    private static void askAll(Pair pair, Dice dice) {
        int persons = pair.reference.count(0);
        int markers = pair.reference.count(3);
        int bits = 2 * pair.reference.count(2);
        int ways = pair.reference.count(4);
        pair.askForPage();
        pair.ask("odds", 1 + dice.below(1000));
        for (int m = 0; m < markers; m++) {
            pair.ask("fit", m, dice.below(ways));
            pair.ask("likely", m);
            if (bits > 0) {
                pair.ask("turned", m, dice.below(bits));
            }
            pair.ask("shared", m, dice.below(persons), dice.below(persons));
        }
        if (markers > 1) {
            int gap = dice.below(markers - 1);
            pair.ask("would", gap, dice.below(9));
            pair.ask("best", gap);
        }
    }

    private static void walkPaths(Check check, Pair pair) {
        long paths = 1;
        for (int m = 0; m < pair.reference.count(3); m++) {
            paths *= pair.reference.count(4);
        }
        if (paths <= LARGEST_WALK) {
            check.due("JOINT by all paths", Check.jointOf(pair.program), pair.reference.jointByPaths());
        }
    }
}
