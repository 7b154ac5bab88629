/** Promise 3: child. */
public final class Promise03ChildTest {
    public static void main(String[] args) {
        Check check = new Check();
        numbersAndLimit(check);
        wrongParents(check);
        whileSomebodyIsSeen(check);
        fatherAndMotherAreTold(check);
        check.end();
    }

    private static void numbersAndLimit(Check check) {
        LinkedMarkers x = new LinkedMarkers();
        x.founder();
        x.founder();
        check.due("child(0, 1)", x.child(0, 1), 2);
        check.due("child(2, 0), of a child", x.child(2, 0), 3);
        check.due("child(3, 3), of one person", x.child(3, 3), 4);
        check.dueBadState("a fourth child", () -> x.child(0, 1));
        check.dueOutOfBounds("a fourth child of nobody", () -> x.child(0, 5));
        check.due("count(2)", x.count(2), 3);
        check.due("count(4)", x.count(4), 64);
    }

    private static void wrongParents(Check check) {
        LinkedMarkers x = new LinkedMarkers();
        check.dueOutOfBounds("child(0, 0) with nobody", () -> x.child(0, 0));
        x.founder();
        check.dueOutOfBounds("child(-1, 0)", () -> x.child(-1, 0));
        check.dueOutOfBounds("child(0, -1)", () -> x.child(0, -1));
        check.dueOutOfBounds("child(1, 0), its own father", () -> x.child(1, 0));
        check.dueOutOfBounds("child(0, 1), its own mother", () -> x.child(0, 1));
        check.dueOutOfBounds("child(MAX, MIN)", () -> x.child(Integer.MAX_VALUE, Integer.MIN_VALUE));
        check.due("count(0) after the throws", x.count(0), 1);
        check.due("child(0, 0)", x.child(0, 0), 1);
    }

    private static void whileSomebodyIsSeen(Check check) {
        LinkedMarkers x = new LinkedMarkers();
        x.founder();
        x.marker(4, 4, 0);
        x.see(0, 0, 1, 2);
        check.dueBadState("child(0, 0) with somebody seen", () -> x.child(0, 0));
        check.dueOutOfBounds("child(0, 1) with somebody seen", () -> x.child(0, 1));
        check.due("count(0) after the throws", x.count(0), 1);
        x.unsee(0, 0);
        check.due("child(0, 0) with nobody seen", x.child(0, 0), 1);
        check.due("fit(0, 3) of the new ways", x.fit(0, 3), 64);
    }

    private static void fatherAndMotherAreTold(Check check) {
        LinkedMarkers x = new LinkedMarkers();
        x.founder();
        x.founder();
        x.child(1, 0);
        check.due("origin(2, 0, 0), of the father", x.origin(2, 0, 0), 2);
        check.due("origin(2, 1, 0), of the mother", x.origin(2, 1, 0), 0);
    }
}
