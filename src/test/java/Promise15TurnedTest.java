/** Promise 15: turned. */
public final class Promise15TurnedTest {
    public static void main(String[] args) {
        Check check = new Check();
        alongTheLine(check);
        fromBothSides(check);
        notKnown(check);
        wrongInputs(check);
        check.end();
    }

    /** Bit 2 is known at marker 1 and may change with 1 / 16 to the one side, 2 / 16 to the other. */
    private static void alongTheLine(Check check) {
        LinkedMarkers x = Families.grandchild(3);
        x.rate(0, 1);
        x.rate(1, 2);
        Families.seeGrandchild(x, 1, 1);
        check.due("turned(1, 2), known to be 0", x.turned(1, 2), 0);
        check.due("turned(0, 2), rounded down", x.turned(0, 2), 62);
        check.due("turned(2, 2)", x.turned(2, 2), 125);
        Families.seeGrandchild(x, 1, 2);
        check.due("turned(1, 2), known to be 1", x.turned(1, 2), 1000);
        check.due("turned(0, 2), rounded down", x.turned(0, 2), 937);
        check.due("turned(2, 2)", x.turned(2, 2), 875);
        check.due("turned(1, 0), of a founder's copies", x.turned(1, 0), 500);
        check.due("turned(1, 3), of a founder's copies", x.turned(1, 3), 500);
    }

    /** 1 on the left, 0 on the right, with 1 / 16 and 2 / 16: 15 * 2 to 1 * 14 for a 1 between. */
    private static void fromBothSides(Check check) {
        LinkedMarkers x = Families.grandchild(3);
        x.rate(0, 1);
        x.rate(1, 2);
        Families.seeGrandchild(x, 0, 2);
        Families.seeGrandchild(x, 2, 1);
        check.due("turned(1, 2)", x.turned(1, 2), 30 * 1000 / 44);
        check.due("turned(0, 2)", x.turned(0, 2), 1000);
        check.due("turned(2, 2)", x.turned(2, 2), 0);
    }

    private static void notKnown(Check check) {
        LinkedMarkers x = Families.grandchild(2);
        for (int bit = 0; bit < 4; bit++) {
            check.due("turned(1, bit) with nobody seen", x.turned(1, bit), 500);
        }
        check.due("turned(2, 5) of 2^150", Families.largest().turned(2, 5), 500);
        x.see(0, 0, 1, 1);
        x.see(3, 0, 2, 2);
        check.due("turned(0, 2) of what can't be", x.turned(0, 2), LinkedMarkers.NONE);
        check.due("turned(1, 2) of what can't be", x.turned(1, 2), LinkedMarkers.NONE);
    }

    private static void wrongInputs(Check check) {
        LinkedMarkers x = new LinkedMarkers();
        x.founder();
        x.marker(4, 4, 0);
        check.dueOutOfBounds("turned(0, 0) without a child", () -> x.turned(0, 0));
        x.child(0, 0);
        check.due("turned(0, 1)", x.turned(0, 1), 500);
        check.dueOutOfBounds("turned(0, 2)", () -> x.turned(0, 2));
        check.dueOutOfBounds("turned(0, -1)", () -> x.turned(0, -1));
        check.dueOutOfBounds("turned(1, 0)", () -> x.turned(1, 0));
        check.dueOutOfBounds("turned(-1, 0)", () -> x.turned(-1, 0));
        x.see(0, 0, 3, 3);
        check.dueOutOfBounds("turned(0, 2) of what can't be", () -> x.turned(0, 2));
    }
}
