/** Promise 14: best. */
public final class Promise14BestTest {
    public static void main(String[] args) {
        Check check = new Check();
        betweenTheEnds(check);
        atTheEnds(check);
        theLeastOfSeveral(check);
        wrongInputs(check);
        check.end();
    }

    /** One bit of six changes: k * (16 - k)^5 + k^5 * (16 - k) is greatest with 3. */
    private static void betweenTheEnds(Check check) {
        LinkedMarkers x = Families.selfed(2);
        Families.seeSelfed(x, 0, 1, 1);
        Families.seeSelfed(x, 1, 1, 2);
        check.due("best(0)", x.best(0), 3);
        check.due("the rate stays", x.rate(0, 0), 8);
        check.due("best(0) from another rate", x.best(0), 3);
    }

    private static void atTheEnds(Check check) {
        LinkedMarkers x = Families.grandchild(3);
        Families.seeGrandchild(x, 0, 1);
        Families.seeGrandchild(x, 1, 2);
        Families.seeGrandchild(x, 2, 2);
        check.due("best(0), where a bit changes", x.best(0), 8);
        check.due("best(1), where no bit changes", x.best(1), 0);
        x.joint();
        String page = Check.page(x);
        x.best(1);
        check.due("the page stays", Check.page(x), page);
        check.due("JOINT stays", Check.jointOf(x), page);
    }

    private static void theLeastOfSeveral(Check check) {
        LinkedMarkers x = Families.grandchild(2);
        check.due("best(0) with nobody seen", x.best(0), 0);
        x.see(4, 0, 1, 3);
        check.due("best(0) with one marker seen", x.best(0), 0);
        x.see(0, 1, 1, 1);
        x.see(3, 1, 2, 2);
        check.due("best(0) of what can't be", x.best(0), 0);
    }

    private static void wrongInputs(Check check) {
        LinkedMarkers x = new LinkedMarkers();
        check.dueOutOfBounds("best(0) without a marker", () -> x.best(0));
        x.marker(4, 4, 0);
        check.dueOutOfBounds("best(0) with one marker", () -> x.best(0));
        x.marker(4, 4, 0);
        check.dueOutOfBounds("best(1)", () -> x.best(1));
        check.dueOutOfBounds("best(-1)", () -> x.best(-1));
        check.due("best(0) with nobody", x.best(0), 0);
    }
}
