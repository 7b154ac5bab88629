/** Families that several tests use. */
final class Families {
    private Families() {
    }

    static void markers(LinkedMarkers x, int markers) {
        for (int m = 0; m < markers; m++) {
            x.marker(2, 2, 4);
        }
    }

    /**
     * Founders 0, 1 and 2, child 3 of 0 and 1, child 4 of 3 and 2: bit 2 says whether 4 has its letter
     * from 0 (bit 0) or from 1 (bit 1).
     */
    static LinkedMarkers grandchild(int markers) {
        LinkedMarkers x = new LinkedMarkers();
        x.founder();
        x.founder();
        x.founder();
        x.child(0, 1);
        x.child(3, 2);
        markers(x, markers);
        return x;
    }

    /** The founders have twice the letter 1, 2 and 3; the grandchild has the given letter and a 3. */
    static void seeGrandchild(LinkedMarkers x, int marker, int letter) {
        x.see(0, marker, 1, 1);
        x.see(1, marker, 2, 2);
        x.see(2, marker, 3, 3);
        x.see(4, marker, letter, 3);
    }

    /** A founder and three children of it alone. */
    static LinkedMarkers selfed(int markers) {
        LinkedMarkers x = new LinkedMarkers();
        x.founder();
        x.child(0, 0);
        x.child(0, 0);
        x.child(0, 0);
        markers(x, markers);
        return x;
    }

    /** The founder has 1 and 2, two children twice a 1, the third one the given letters. */
    static void seeSelfed(LinkedMarkers x, int marker, int one, int other) {
        x.see(0, marker, 1, 2);
        x.see(1, marker, 1, 1);
        x.see(2, marker, 1, 1);
        x.see(3, marker, one, other);
    }

    /** As many of all as there may be, and all markers sure to show the letter 1: JOINT is 2^150. */
    static LinkedMarkers largest() {
        LinkedMarkers x = new LinkedMarkers();
        x.founder();
        x.founder();
        x.founder();
        x.child(0, 1);
        x.child(0, 1);
        x.child(3, 2);
        for (int m = 0; m < 4; m++) {
            x.marker(8, 0, 0);
            x.see(m + 2, m, 1, 1);
        }
        x.rate(1, 3);
        return x;
    }
}
