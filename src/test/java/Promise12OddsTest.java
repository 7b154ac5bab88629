/** Promise 12: odds. */
public final class Promise12OddsTest {
    public static void main(String[] args) {
        Check check = new Check();
        greatOdds(check);
        largestNumbers(check);
        roundedDown(check);
        noOdds(check);
        wrongInputs(check);
        check.end();
    }

    /** Two of 64 ways fit at each of four markers, and none may change: 2 / 64 to (2 / 64)^4. */
    private static void greatOdds(Check check) {
        LinkedMarkers x = Families.selfed(4);
        for (int m = 0; m < 4; m++) {
            Families.seeSelfed(x, m, 1, 1);
        }
        check.due("odds(7) with all rates 8", x.odds(7), 7);
        for (int gap = 0; gap < 3; gap++) {
            x.rate(gap, 0);
        }
        check.due("odds(1)", x.odds(1), 32768);
        check.due("odds(1000)", x.odds(1000), 32768000);
        check.due("rate(0, 0) stays", x.rate(0, 0), 0);
    }

    private static void largestNumbers(Check check) {
        LinkedMarkers x = Families.largest();
        check.due("odds(1) of 2^150", x.odds(1), 1);
        check.due("odds(999) of 2^150", x.odds(999), 999);
        check.due("odds(1000) of 2^150", x.odds(1000), 1000);
    }

    /** One bit must change, at a rate of 3 / 16 instead of 8 / 16. */
    private static void roundedDown(Check check) {
        LinkedMarkers x = Families.grandchild(2);
        Families.seeGrandchild(x, 0, 1);
        Families.seeGrandchild(x, 1, 2);
        x.rate(0, 3);
        check.due("odds(1)", x.odds(1), 0);
        check.due("odds(2)", x.odds(2), 0);
        check.due("odds(3)", x.odds(3), 1);
        check.due("odds(999)", x.odds(999), 374);
        check.due("odds(1000)", x.odds(1000), 375);
        x.rate(0, 0);
        check.due("odds(1000) of what the rate rules out", x.odds(1000), 0);
        Families.seeGrandchild(x, 1, 1);
        x.rate(0, 3);
        check.due("odds(1000) with no change", x.odds(1000), 1625);
        check.due("odds(9) with no change", x.odds(9), 14);
    }

    private static void noOdds(Check check) {
        LinkedMarkers x = new LinkedMarkers();
        x.founder();
        x.marker(8, 0, 0);
        check.due("odds(5) with one marker", x.odds(5), 5);
        x.see(0, 0, 1, 2);
        check.due("odds(5) of what can't be", x.odds(5), LinkedMarkers.NONE);
    }

    private static void wrongInputs(Check check) {
        LinkedMarkers x = new LinkedMarkers();
        check.dueBadState("odds(1) without a marker", () -> x.odds(1));
        check.dueBadState("odds(1000) without a marker", () -> x.odds(1000));
        check.dueBadArgument("odds(0) without a marker", () -> x.odds(0));
        check.dueBadArgument("odds(1001) without a marker", () -> x.odds(1001));
        x.marker(4, 4, 0);
        check.dueBadArgument("odds(0)", () -> x.odds(0));
        check.dueBadArgument("odds(-1)", () -> x.odds(-1));
        check.dueBadArgument("odds(1001)", () -> x.odds(1001));
        check.due("odds(1)", x.odds(1), 1);
        check.due("odds(1000)", x.odds(1000), 1000);
        x.joint();
        x.odds(17);
        check.due("the page stays", Check.page(x), "1");
    }
}
