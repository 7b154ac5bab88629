/** Promise 4: marker. */
public final class Promise04MarkerTest {
    public static void main(String[] args) {
        Check check = new Check();
        numbersAndLimit(check);
        wrongWeights(check);
        weightsCount(check);
        whileSomebodyIsSeen(check);
        check.end();
    }

    private static void numbersAndLimit(Check check) {
        LinkedMarkers x = new LinkedMarkers();
        check.due("marker(8, 0, 0)", x.marker(8, 0, 0), 0);
        check.due("marker(0, 8, 0)", x.marker(0, 8, 0), 1);
        check.due("marker(0, 0, 8)", x.marker(0, 0, 8), 2);
        check.due("marker(3, 3, 2)", x.marker(3, 3, 2), 3);
        check.dueBadState("a fifth marker", () -> x.marker(3, 3, 2));
        check.dueBadArgument("a fifth marker of 7", () -> x.marker(3, 3, 1));
        check.due("count(3)", x.count(3), 4);
    }

    private static void wrongWeights(Check check) {
        LinkedMarkers x = new LinkedMarkers();
        check.dueBadArgument("marker(-1, 5, 4)", () -> x.marker(-1, 5, 4));
        check.dueBadArgument("marker(5, -1, 4)", () -> x.marker(5, -1, 4));
        check.dueBadArgument("marker(5, 4, -1)", () -> x.marker(5, 4, -1));
        check.dueBadArgument("marker(-8, 8, 8)", () -> x.marker(-8, 8, 8));
        check.dueBadArgument("marker(2, 2, 3)", () -> x.marker(2, 2, 3));
        check.dueBadArgument("marker(3, 3, 3)", () -> x.marker(3, 3, 3));
        check.dueBadArgument("marker(0, 0, 0)", () -> x.marker(0, 0, 0));
        int max = Integer.MAX_VALUE;
        check.dueBadArgument("weights that wrap around to 8", () -> x.marker(max, max, 10));
        check.dueBadArgument("weights with MIN", () -> x.marker(Integer.MIN_VALUE, max, 9));
        check.due("count(3) after the throws", x.count(3), 0);
    }

    private static void weightsCount(Check check) {
        LinkedMarkers x = new LinkedMarkers();
        x.founder();
        x.marker(1, 2, 5);
        int[] weights = {1, 2, 5};
        for (int letter = 1; letter <= 3; letter++) {
            x.see(0, 0, letter, letter);
            int weight = weights[letter - 1];
            check.due("fit(0, 0) with the letter " + letter, x.fit(0, 0), (long) weight * weight);
        }
    }

    private static void whileSomebodyIsSeen(Check check) {
        LinkedMarkers x = new LinkedMarkers();
        x.founder();
        x.child(0, 0);
        x.marker(1, 2, 5);
        x.see(0, 0, 1, 2);
        check.due("marker(4, 4, 0) with somebody seen", x.marker(4, 4, 0), 1);
        check.due("fit(1, 2) of the new marker", x.fit(1, 2), 64);
        check.due("fit(0, 2) of the old marker", x.fit(0, 2), 4);
        check.due("the new gap's rate", x.rate(0, 0), 8);
        x.marker(4, 4, 0);
        check.due("the next new gap's rate", x.rate(1, 1), 8);
        check.due("the first gap's rate stays", x.rate(0, 3), 0);
    }
}
