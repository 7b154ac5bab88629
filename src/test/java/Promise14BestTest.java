/** Promise 14: best. */
public final class Promise14BestTest {
    // Founders, then children (father, mother), then who is seen (person, marker, one, other), so that
    // the rate of the row's own number is the best one.
    private static final String[] FAMILIES = {
        "2 / 0 1 0 2 / 0 0 2 1 1 0 2 2 2 0 1 2 3 0 1 1 0 1 2 2 1 1 1 1 2 1 1 1 3 1 1 2",
        "2 / 1 0 0 0 0 1 / 0 0 1 2 2 0 1 1 3 0 2 2 4 0 2 1 1 1 1 1 2 1 2 1 3 1 1 1 4 1 2 1",
        "2 / 0 1 1 0 3 0 / 2 0 1 1 3 0 1 2 4 0 1 1 1 1 1 2 2 1 2 2 3 1 1 1",
        "1 / 0 0 1 1 0 2 / 1 0 2 1 2 0 1 2 3 0 1 2 0 1 1 2 1 1 2 1 2 1 2 1 3 1 2 2",
        "1 / 0 0 1 1 2 0 / 0 0 2 1 1 0 2 1 3 0 2 1 0 1 1 2 1 1 1 2 2 1 2 1 3 1 1 1",
        "1 / 0 0 0 1 1 0 / 1 0 2 1 2 0 2 2 0 1 2 1 1 1 1 2 2 1 2 1 3 1 2 2",
        "2 / 0 1 2 0 2 3 / 0 0 2 2 2 0 1 2 3 0 1 2 4 0 1 2 1 1 2 1 2 1 2 1 3 1 2 1 4 1 2 2",
        "2 / 0 1 1 2 / 1 0 1 2 3 0 1 2 0 1 2 1 3 1 1 1",
        "1 / 0 0 0 0 2 1 / 0 0 1 2 1 0 2 2 2 0 2 1 3 0 1 2 1 1 2 2 2 1 1 1"
    };

    public static void main(String[] args) {
        Check check = new Check();
        everyRate(check);
        byTheOtherGaps(check);
        betweenTheEnds(check);
        atTheEnds(check);
        theLeastOfSeveral(check);
        wrongInputs(check);
        check.end();
    }

    private static void everyRate(Check check) {
        for (int k = 0; k < FAMILIES.length; k++) {
            String[] parts = FAMILIES[k].split(" / ");
            Pair pair = new Pair(check);
            for (int f = 0; f < Integer.parseInt(parts[0]); f++) {
                pair.ask("founder");
            }
            askEach(pair, "child", parts[1], 2);
            pair.ask("marker", 2, 2, 4);
            pair.ask("marker", 2, 2, 4);
            askEach(pair, "see", parts[2], 4);
            check.due("best(0) of family " + k, Long.parseLong(pair.ask("best", 0)), k);
        }
    }

    private static void askEach(Pair pair, String name, String numbers, int arguments) {
        String[] all = numbers.split(" ");
        for (int start = 0; start < all.length; start += arguments) {
            int[] given = new int[arguments];
            for (int i = 0; i < arguments; i++) {
                given[i] = Integer.parseInt(all[start + i]);
            }
            pair.ask(name, given);
        }
    }

    /** A bit changes between markers 0 and 2: it must do so in gap 0 only if it can't in gap 1. */
    private static void byTheOtherGaps(Check check) {
        LinkedMarkers x = Families.grandchild(3);
        Families.seeGrandchild(x, 0, 1);
        Families.seeGrandchild(x, 2, 2);
        check.due("best(0) with the rate 8 in gap 1", x.best(0), 0);
        x.rate(1, 0);
        check.due("best(0) with the rate 0 in gap 1", x.best(0), 8);
        x.rate(1, 8);
        check.due("best(0) with the rate 8 again", x.best(0), 0);
    }

    /** One bit of six changes: k * (16 - k)^5 + k^5 * (16 - k) is greatest with 3. */
    private static void betweenTheEnds(Check check) {
        LinkedMarkers x = Families.selfed(2);
        Families.seeSelfed(x, 0, 1, 1);
        Families.seeSelfed(x, 1, 1, 2);
        check.due("best(0)", x.best(0), 3);
        check.due("the rate stays", x.rate(0, 0), 8);
        check.due("best(0) from another rate", x.best(0), 3);
    }

    private static void atTheEnds(Check check) {
        LinkedMarkers x = Families.grandchild(3);
        Families.seeGrandchild(x, 0, 1);
        Families.seeGrandchild(x, 1, 2);
        Families.seeGrandchild(x, 2, 2);
        check.due("best(0), where a bit changes", x.best(0), 8);
        check.due("best(1), where no bit changes", x.best(1), 0);
        x.joint();
        String page = Check.page(x);
        x.best(1);
        check.due("the page stays", Check.page(x), page);
        check.due("JOINT stays", Check.jointOf(x), page);
    }

    private static void theLeastOfSeveral(Check check) {
        LinkedMarkers x = Families.grandchild(2);
        check.due("best(0) with nobody seen", x.best(0), 0);
        x.see(4, 0, 1, 3);
        check.due("best(0) with one marker seen", x.best(0), 0);
        x.see(0, 1, 1, 1);
        x.see(3, 1, 2, 2);
        check.due("best(0) of what can't be", x.best(0), 0);
    }

    private static void wrongInputs(Check check) {
        LinkedMarkers x = new LinkedMarkers();
        check.dueOutOfBounds("best(0) without a marker", () -> x.best(0));
        x.marker(4, 4, 0);
        check.dueOutOfBounds("best(0) with one marker", () -> x.best(0));
        x.marker(4, 4, 0);
        check.dueOutOfBounds("best(1)", () -> x.best(1));
        check.dueOutOfBounds("best(-1)", () -> x.best(-1));
        check.due("best(0) with nobody", x.best(0), 0);
    }
}
