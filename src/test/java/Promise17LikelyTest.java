/** Promise 17: likely. */
public final class Promise17LikelyTest {
    public static void main(String[] args) {
        Check check = new Check();
        theLeastOfSeveral(check);
        alongTheLine(check);
        byWeight(check);
        wrongInputs(check);
        check.end();
    }

    private static void theLeastOfSeveral(Check check) {
        LinkedMarkers x = Families.grandchild(2);
        check.due("likely(1) with nobody seen", x.likely(1), 0);
        Families.seeGrandchild(x, 0, 2);
        check.due("likely(0), bit 2 known to be 1", x.likely(0), 4);
        check.due("likely(1), bit 2 not known", x.likely(1), 0);
        x.rate(0, 7);
        check.due("likely(1), bit 2 rather 1", x.likely(1), 4);
    }

    /** Bit 2 is 1 on the left and 0 on the right: the nearer one decides. */
    private static void alongTheLine(Check check) {
        LinkedMarkers x = Families.grandchild(3);
        Families.seeGrandchild(x, 0, 2);
        Families.seeGrandchild(x, 2, 1);
        x.rate(0, 1);
        x.rate(1, 2);
        check.due("likely(1), nearer to the left", x.likely(1), 4);
        x.rate(0, 3);
        check.due("likely(1), nearer to the right", x.likely(1), 0);
        x.rate(0, 0);
        x.rate(1, 0);
        check.due("likely(1) of what can't be", x.likely(1), LinkedMarkers.NONE);
    }

    /** Twice the same copy is more probable than two copies that happen to be alike. */
    private static void byWeight(Check check) {
        LinkedMarkers x = new LinkedMarkers();
        x.founder();
        x.child(0, 0);
        x.marker(1, 2, 5);
        x.see(1, 0, 1, 2);
        check.due("likely(0), the copies differ", x.likely(0), 1);
        x.see(1, 0, 1, 1);
        check.due("likely(0), the copies are alike", x.likely(0), 0);
        x.see(0, 0, 2, 3);
        check.due("likely(0) of what can't be", x.likely(0), LinkedMarkers.NONE);
    }

    private static void wrongInputs(Check check) {
        LinkedMarkers x = new LinkedMarkers();
        check.dueOutOfBounds("likely(0) without a marker", () -> x.likely(0));
        x.marker(4, 4, 0);
        check.due("likely(0) with nobody", x.likely(0), 0);
        check.dueOutOfBounds("likely(1)", () -> x.likely(1));
        check.dueOutOfBounds("likely(-1)", () -> x.likely(-1));
    }
}
