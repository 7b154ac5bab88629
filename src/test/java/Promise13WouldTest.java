/** Promise 13: would. */
public final class Promise13WouldTest {
    public static void main(String[] args) {
        Check check = new Check();
        greaterSameLess(check);
        justThatGap(check);
        wrongInputs(check);
        check.end();
    }

    /** JOINT goes with k * (16 - k)^5 + k^5 * (16 - k), which is greatest with the rate 3. */
    private static void greaterSameLess(Check check) {
        LinkedMarkers x = Families.selfed(2);
        Families.seeSelfed(x, 0, 1, 1);
        Families.seeSelfed(x, 1, 1, 2);
        x.rate(0, 3);
        for (int k = 0; k <= 8; k++) {
            check.due("would(0, " + k + ") at 3", x.would(0, k), k == 3 ? 0 : -1);
        }
        x.rate(0, 8);
        check.due("would(0, 4) at 8", x.would(0, 4), 1);
        check.due("would(0, 0) at 8", x.would(0, 0), -1);
        check.due("would(0, 8) at 8", x.would(0, 8), 0);
        check.due("the rate stays", x.rate(0, 0), 8);
        check.due("would(0, 1) at 0", x.would(0, 1), 1);
        x.unsee(0, 0);
        x.unsee(1, 0);
        x.unsee(2, 0);
        x.unsee(3, 0);
        check.due("would(0, 5) when it does not matter", x.would(0, 5), 0);
        check.due("would(1, 5) of 2^150", Families.largest().would(1, 5), 0);
    }

    private static void justThatGap(Check check) {
        LinkedMarkers x = Families.grandchild(3);
        Families.seeGrandchild(x, 0, 1);
        Families.seeGrandchild(x, 1, 2);
        Families.seeGrandchild(x, 2, 2);
        x.rate(0, 4);
        x.rate(1, 4);
        check.due("would(0, 5), where a bit changes", x.would(0, 5), 1);
        check.due("would(1, 5), where no bit changes", x.would(1, 5), -1);
        check.due("would(0, 3), where a bit changes", x.would(0, 3), -1);
        check.due("would(1, 3), where no bit changes", x.would(1, 3), 1);
        x.joint();
        String page = Check.page(x);
        x.would(0, 8);
        check.due("the page stays", Check.page(x), page);
        check.due("JOINT stays", Check.jointOf(x), page);
    }

    private static void wrongInputs(Check check) {
        LinkedMarkers x = new LinkedMarkers();
        check.dueOutOfBounds("would(0, 1) without a marker", () -> x.would(0, 1));
        x.marker(4, 4, 0);
        check.dueOutOfBounds("would(0, 1) with one marker", () -> x.would(0, 1));
        x.marker(4, 4, 0);
        check.dueOutOfBounds("would(1, 1)", () -> x.would(1, 1));
        check.dueOutOfBounds("would(-1, 1)", () -> x.would(-1, 1));
        check.dueOutOfBounds("would(1, 9): the first one wins", () -> x.would(1, 9));
        check.dueBadArgument("would(0, 9)", () -> x.would(0, 9));
        check.dueBadArgument("would(0, -1)", () -> x.would(0, -1));
        check.due("would(0, 0)", x.would(0, 0), 0);
    }
}
