/** Promise 16: shared. */
public final class Promise16SharedTest {
    public static void main(String[] args) {
        Check check = new Check();
        nobodySeen(check);
        bySight(check);
        wrongInputs(check);
        check.end();
    }

    /** Founders 0, 1, 2; children 3 and 4 of 0 and 1; child 5 of 3 and 2. */
    private static void nobodySeen(Check check) {
        LinkedMarkers x = new LinkedMarkers();
        x.founder();
        x.founder();
        x.founder();
        x.child(0, 1);
        x.child(0, 1);
        x.child(3, 2);
        x.marker(4, 4, 0);
        check.due("a person with itself", x.shared(0, 0, 0), 1000);
        check.due("a child with itself", x.shared(0, 5, 5), 1000);
        check.due("two founders", x.shared(0, 0, 1), 0);
        check.due("father and child", x.shared(0, 0, 3), 1000);
        check.due("child and mother", x.shared(0, 4, 1), 1000);
        check.due("a child and no parent", x.shared(0, 3, 2), 0);
        check.due("brother and sister", x.shared(0, 3, 4), 750);
        check.due("grandfather and grandchild", x.shared(0, 0, 5), 500);
        check.due("grandchild and grandmother", x.shared(0, 5, 1), 500);
        check.due("uncle and niece", x.shared(0, 4, 5), 500);
        check.due("brother and sister of 2^150", Families.largest().shared(3, 3, 4), 750);
        check.due("father and child of 2^150", Families.largest().shared(0, 0, 3), 1000);
    }

    /** What the grandchild has at marker 0 tells whose copy it is there, and 3 / 16 away from there. */
    private static void bySight(Check check) {
        LinkedMarkers x = Families.grandchild(2);
        x.rate(0, 3);
        Families.seeGrandchild(x, 0, 2);
        check.due("shared(0, 0, 4)", x.shared(0, 0, 4), 0);
        check.due("shared(0, 4, 1)", x.shared(0, 4, 1), 1000);
        check.due("shared(1, 0, 4), rounded down", x.shared(1, 0, 4), 187);
        check.due("shared(1, 4, 1), rounded down", x.shared(1, 4, 1), 812);
        x.see(3, 0, 3, 3);
        check.due("shared(0, 0, 4) of what can't be", x.shared(0, 0, 4), LinkedMarkers.NONE);
        check.due("shared(1, 0, 0) of what can't be", x.shared(1, 0, 0), LinkedMarkers.NONE);
    }

    private static void wrongInputs(Check check) {
        LinkedMarkers x = new LinkedMarkers();
        x.founder();
        check.dueOutOfBounds("shared(0, 0, 0) without a marker", () -> x.shared(0, 0, 0));
        x.marker(4, 4, 0);
        check.due("shared(0, 0, 0)", x.shared(0, 0, 0), 1000);
        check.dueOutOfBounds("shared(1, 0, 0)", () -> x.shared(1, 0, 0));
        check.dueOutOfBounds("shared(-1, 0, 0)", () -> x.shared(-1, 0, 0));
        check.dueOutOfBounds("shared(0, 1, 0)", () -> x.shared(0, 1, 0));
        check.dueOutOfBounds("shared(0, 0, 1)", () -> x.shared(0, 0, 1));
        check.dueOutOfBounds("shared(0, -1, 0)", () -> x.shared(0, -1, 0));
        check.dueOutOfBounds("shared(0, 0, -1)", () -> x.shared(0, 0, -1));
    }
}
