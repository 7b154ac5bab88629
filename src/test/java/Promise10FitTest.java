/** Promise 10: fit. */
public final class Promise10FitTest {
    public static void main(String[] args) {
        Check check = new Check();
        nobodySeen(check);
        selfedChild(check);
        childOfTwo(check);
        allSeen(check);
        wrongInputs(check);
        check.end();
    }

    private static void nobodySeen(Check check) {
        LinkedMarkers x = new LinkedMarkers();
        x.marker(1, 2, 5);
        check.due("fit(0, 0) with nobody", x.fit(0, 0), 1);
        x.founder();
        check.due("fit(0, 0) with a founder", x.fit(0, 0), 64);
        x.founder();
        x.founder();
        x.child(0, 1);
        x.child(0, 1);
        x.child(0, 1);
        check.due("fit(0, 63) with three founders", x.fit(0, 63), 262144);
    }

    private static void selfedChild(Check check) {
        LinkedMarkers x = new LinkedMarkers();
        x.founder();
        x.child(0, 0);
        x.marker(1, 2, 5);
        x.see(1, 0, 1, 2);
        dueFits(check, x, "child 1, 2", 0, 4, 4, 0);
        x.see(1, 0, 2, 2);
        dueFits(check, x, "child 2, 2", 16, 4, 4, 16);
        x.see(0, 0, 2, 1);
        dueFits(check, x, "founder 2, 1 and child 2, 2", 2, 0, 0, 2);
        x.see(1, 0, 1, 2);
        dueFits(check, x, "founder 2, 1 and child 1, 2", 0, 4, 4, 0);
        x.see(1, 0, 3, 2);
        dueFits(check, x, "founder 2, 1 and child 3, 2", 0, 0, 0, 0);
    }

    private static void childOfTwo(Check check) {
        LinkedMarkers x = new LinkedMarkers();
        x.founder();
        x.founder();
        x.child(0, 1);
        x.marker(1, 2, 5);
        x.see(2, 0, 1, 2);
        dueFits(check, x, "child 1, 2", 256, 256, 256, 256);
        x.see(0, 0, 1, 1);
        dueFits(check, x, "father 1, 1 and child 1, 2", 16, 16, 16, 16);
        x.see(0, 0, 1, 3);
        dueFits(check, x, "father 1, 3 and child 1, 2", 80, 80, 80, 80);
        x.see(1, 0, 2, 2);
        dueFits(check, x, "father 1, 3, mother 2, 2 and child 1, 2", 20, 20, 20, 20);
    }

    /** Two children tell apart: the father's letter 1 goes to the one, his 2 to the other. */
    private static void allSeen(Check check) {
        LinkedMarkers x = new LinkedMarkers();
        x.founder();
        x.founder();
        x.child(0, 1);
        x.child(0, 1);
        x.marker(3, 4, 1);
        x.see(0, 0, 1, 2);
        x.see(1, 0, 3, 3);
        x.see(2, 0, 1, 3);
        x.see(3, 0, 3, 2);
        for (int way = 0; way < 16; way++) {
            boolean apart = (way & 1) != ((way >> 2) & 1);
            check.due("fit(0, " + way + ")", x.fit(0, way), apart ? 12 : 0);
        }
    }

    private static void dueFits(Check check, LinkedMarkers x, String seen, int... want) {
        for (int way = 0; way < want.length; way++) {
            check.due("fit(0, " + way + "), " + seen, x.fit(0, way), want[way]);
        }
    }

    private static void wrongInputs(Check check) {
        LinkedMarkers x = new LinkedMarkers();
        x.founder();
        x.child(0, 0);
        check.dueOutOfBounds("fit(0, 0) without a marker", () -> x.fit(0, 0));
        x.marker(4, 4, 0);
        check.dueOutOfBounds("fit(-1, 0)", () -> x.fit(-1, 0));
        check.dueOutOfBounds("fit(1, 0)", () -> x.fit(1, 0));
        check.dueOutOfBounds("fit(0, -1)", () -> x.fit(0, -1));
        check.dueOutOfBounds("fit(0, 4)", () -> x.fit(0, 4));
        check.due("fit(0, 3)", x.fit(0, 3), 64);
    }
}
