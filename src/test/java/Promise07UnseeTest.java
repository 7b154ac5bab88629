/** Promise 7: unsee. */
public final class Promise07UnseeTest {
    public static void main(String[] args) {
        Check check = new Check();
        LinkedMarkers x = new LinkedMarkers();
        x.founder();
        x.child(0, 0);
        x.marker(1, 2, 5);
        x.marker(4, 4, 0);
        check.dueTrue("unsee(0, 0) of one never seen is false", !x.unsee(0, 0));
        x.see(0, 0, 1, 2);
        x.see(1, 0, 2, 2);
        x.see(0, 1, 3, 3);
        check.due("fit(0, 0)", x.fit(0, 0), 2);
        check.dueTrue("unsee(0, 0) is true", x.unsee(0, 0));
        check.due("fit(0, 0) without the founder", x.fit(0, 0), 16);
        check.due("fit(0, 1) without the founder", x.fit(0, 1), 4);
        check.due("fit(1, 0) of the other marker", x.fit(1, 0), 0);
        check.dueTrue("unsee(0, 0) again is false", !x.unsee(0, 0));
        wrongInputs(check, x);
        check.dueTrue("unsee(1, 0) after the throws is true", x.unsee(1, 0));
        check.dueBadState("founder() while one is seen", x::founder);
        check.dueTrue("unsee(0, 1) is true", x.unsee(0, 1));
        check.due("fit(1, 0) with nobody seen", x.fit(1, 0), 64);
        check.due("founder() with nobody seen", x.founder(), 2);
        check.end();
    }

    private static void wrongInputs(Check check, LinkedMarkers x) {
        check.dueOutOfBounds("unsee(-1, 0)", () -> x.unsee(-1, 0));
        check.dueOutOfBounds("unsee(2, 0)", () -> x.unsee(2, 0));
        check.dueOutOfBounds("unsee(0, -1)", () -> x.unsee(0, -1));
        check.dueOutOfBounds("unsee(0, 2)", () -> x.unsee(0, 2));
        check.dueOutOfBounds("unsee(MIN, MAX)", () -> x.unsee(Integer.MIN_VALUE, Integer.MAX_VALUE));
    }
}
