/** Promise 6: see. */
public final class Promise06SeeTest {
    public static void main(String[] args) {
        Check check = new Check();
        lettersHaveNoOrder(check);
        inPlaceOfWhatWasSeen(check);
        justOneMarker(check);
        wrongInputs(check);
        check.end();
    }

    private static LinkedMarkers couple() {
        LinkedMarkers x = new LinkedMarkers();
        x.founder();
        x.founder();
        x.marker(1, 2, 5);
        x.marker(4, 3, 1);
        return x;
    }

    private static void lettersHaveNoOrder(Check check) {
        LinkedMarkers x = couple();
        x.see(0, 0, 1, 3);
        check.due("fit(0, 0) seen with 1, 3", x.fit(0, 0), 2 * 5 * 64);
        x.see(0, 0, 3, 1);
        check.due("fit(0, 0) seen with 3, 1", x.fit(0, 0), 2 * 5 * 64);
        x.see(1, 0, 2, 1);
        check.due("fit(0, 0) with both seen", x.fit(0, 0), 2 * 5 * 2 * 2);
    }

    private static void inPlaceOfWhatWasSeen(Check check) {
        LinkedMarkers x = couple();
        x.see(0, 0, 1, 1);
        x.see(0, 0, 2, 2);
        check.due("fit(0, 0) by what is seen last", x.fit(0, 0), 4 * 64);
        x.see(0, 0, 2, 2);
        check.due("unsee(0, 0) takes all of it", x.unsee(0, 0) ? 1 : 0, 1);
        check.due("fit(0, 0) with nobody seen", x.fit(0, 0), 4096);
        check.due("nobody is seen: founder()", x.founder(), 2);
    }

    private static void justOneMarker(Check check) {
        LinkedMarkers x = couple();
        x.see(1, 1, 3, 3);
        check.due("fit(1, 0)", x.fit(1, 0), 64);
        check.due("fit(0, 0)", x.fit(0, 0), 4096);
        check.due("unsee(0, 1), the other person", x.unsee(0, 1) ? 1 : 0, 0);
        check.due("unsee(1, 0), the other marker", x.unsee(1, 0) ? 1 : 0, 0);
    }

    private static void wrongInputs(Check check) {
        LinkedMarkers x = couple();
        x.see(0, 0, 1, 1);
        check.dueOutOfBounds("see(-1, 0, 1, 1)", () -> x.see(-1, 0, 1, 1));
        check.dueOutOfBounds("see(2, 0, 1, 1)", () -> x.see(2, 0, 1, 1));
        check.dueOutOfBounds("see(0, -1, 1, 1)", () -> x.see(0, -1, 1, 1));
        check.dueOutOfBounds("see(0, 2, 1, 1)", () -> x.see(0, 2, 1, 1));
        check.dueOutOfBounds("see(0, 2, 0, 0): the first one wins", () -> x.see(0, 2, 0, 0));
        check.dueOutOfBounds("see(2, 0, 0, 0): the first one wins", () -> x.see(2, 0, 0, 0));
        check.dueBadArgument("see(0, 0, 0, 2)", () -> x.see(0, 0, 0, 2));
        check.dueBadArgument("see(0, 0, 2, 0)", () -> x.see(0, 0, 2, 0));
        check.dueBadArgument("see(0, 0, 4, 2)", () -> x.see(0, 0, 4, 2));
        check.dueBadArgument("see(0, 0, 2, 4)", () -> x.see(0, 0, 2, 4));
        check.dueBadArgument("see(0, 0, -1, 2)", () -> x.see(0, 0, -1, 2));
        check.dueBadArgument("see(1, 0, 2, 4) of one who is not seen", () -> x.see(1, 0, 2, 4));
        check.due("fit(0, 0) after the throws", x.fit(0, 0), 64);
        check.due("unsee(1, 0) after the throws", x.unsee(1, 0) ? 1 : 0, 0);
    }
}
