/** Promise 2: founder. */
public final class Promise02FounderTest {
    public static void main(String[] args) {
        Check check = new Check();
        numbersAndLimit(check);
        amongChildren(check);
        whileSomebodyIsSeen(check);
        afterMarkers(check);
        check.end();
    }

    private static void numbersAndLimit(Check check) {
        LinkedMarkers x = new LinkedMarkers();
        check.due("first founder()", x.founder(), 0);
        check.due("second founder()", x.founder(), 1);
        check.due("third founder()", x.founder(), 2);
        check.dueBadState("fourth founder()", x::founder);
        check.due("count(0) after the fourth", x.count(0), 3);
        check.due("count(1) after the fourth", x.count(1), 3);
    }

    private static void amongChildren(Check check) {
        LinkedMarkers x = new LinkedMarkers();
        x.founder();
        x.child(0, 0);
        check.due("founder() behind a child", x.founder(), 2);
        x.child(1, 2);
        x.child(3, 3);
        check.due("founder() behind three children", x.founder(), 5);
        check.due("count(0)", x.count(0), 6);
        check.due("count(1)", x.count(1), 3);
        check.due("count(2)", x.count(2), 3);
    }

    private static void whileSomebodyIsSeen(Check check) {
        LinkedMarkers x = new LinkedMarkers();
        x.founder();
        x.marker(4, 4, 0);
        x.marker(4, 4, 0);
        x.see(0, 0, 1, 1);
        x.see(0, 0, 1, 2);
        x.see(0, 1, 2, 2);
        check.dueBadState("founder() with two seen", x::founder);
        x.unsee(0, 0);
        x.unsee(0, 0);
        check.dueBadState("founder() with one seen at marker 1", x::founder);
        check.due("count(1) after the throws", x.count(1), 1);
        x.unsee(0, 1);
        check.due("founder() with nobody seen any more", x.founder(), 1);
    }

    private static void afterMarkers(Check check) {
        LinkedMarkers x = new LinkedMarkers();
        x.marker(4, 4, 0);
        x.marker(1, 2, 5);
        x.founder();
        x.founder();
        check.due("fit(0, 0) with two founders", x.fit(0, 0), 4096);
        check.due("fit(1, 0) with two founders", x.fit(1, 0), 4096);
        x.see(1, 1, 3, 3);
        check.due("fit(1, 0) with the second founder seen", x.fit(1, 0), 64 * 25);
    }
}
