/** Promise 1: a new object has no persons and no markers, and its page is empty. */
public final class Promise01NewObjectTest {
    public static void main(String[] args) {
        Check check = new Check();
        LinkedMarkers x = new LinkedMarkers();
        check.due("NONE", LinkedMarkers.NONE, -1);
        check.due("count(0)", x.count(0), 0);
        check.due("count(1)", x.count(1), 0);
        check.due("count(2)", x.count(2), 0);
        check.due("count(3)", x.count(3), 0);
        check.due("count(4)", x.count(4), 1);
        check.due("count(5)", x.count(5), 0);
        check.due("length()", x.length(), 0);
        check.due("charAt(0)", x.charAt(0), ' ');
        check.dueOutOfBounds("see(0, 0, 1, 1)", () -> x.see(0, 0, 1, 1));
        check.dueOutOfBounds("fit(0, 0)", () -> x.fit(0, 0));
        check.dueOutOfBounds("origin(0, 0, 0)", () -> x.origin(0, 0, 0));
        check.dueOutOfBounds("rate(0, 1)", () -> x.rate(0, 1));
        objectsStandApart(check);
        check.end();
    }

    private static void objectsStandApart(Check check) {
        LinkedMarkers first = new LinkedMarkers();
        LinkedMarkers second = new LinkedMarkers();
        first.founder();
        first.marker(4, 4, 0);
        first.joint();
        check.due("count(0) of another object", second.count(0), 0);
        check.due("count(3) of another object", second.count(3), 0);
        check.due("length() of another object", second.length(), 0);
    }
}
