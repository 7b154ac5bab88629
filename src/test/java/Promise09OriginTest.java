/** Promise 9: origin. */
public final class Promise09OriginTest {
    public static void main(String[] args) {
        Check check = new Check();
        founderBehindChild(check);
        lineOfThree(check);
        wrongInputs(check);
        check.end();
    }

    private static int bit(int way, int bit) {
        return (way >> bit) & 1;
    }

    /** Founder 0, child 1 of 0 and 0, founder 2 (the founders' number 1), child 3 of 2 and 1. */
    private static void founderBehindChild(Check check) {
        LinkedMarkers x = new LinkedMarkers();
        x.founder();
        x.child(0, 0);
        x.founder();
        x.child(2, 1);
        for (int way = 0; way < 16; way++) {
            for (int copy = 0; copy < 2; copy++) {
                check.due("founder 0's copy, way " + way, x.origin(0, copy, way), copy);
                check.due("founder 2's copy, way " + way, x.origin(2, copy, way), 2 + copy);
                check.due("child 1's copy, way " + way, x.origin(1, copy, way), bit(way, copy));
            }
            check.due("child 3's copy 0, way " + way, x.origin(3, 0, way), 2 + bit(way, 2));
            int ofChildOne = bit(way, 3);
            check.due("child 3's copy 1, way " + way, x.origin(3, 1, way), bit(way, ofChildOne));
        }
    }

    /** Each child is the child of the one before and a founder: the line goes up through three. */
    private static void lineOfThree(Check check) {
        LinkedMarkers x = new LinkedMarkers();
        x.founder();
        x.founder();
        x.founder();
        x.child(0, 1);
        x.child(3, 2);
        x.child(4, 4);
        for (int way = 0; way < 64; way++) {
            int first = bit(way, 2) == 0 ? bit(way, 0) : 2 + bit(way, 1);
            int second = 4 + bit(way, 3);
            check.due("child 4's copy 0, way " + way, x.origin(4, 0, way), first);
            check.due("child 4's copy 1, way " + way, x.origin(4, 1, way), second);
            check.due("child 5's copy 0, way " + way, x.origin(5, 0, way), bit(way, 4) == 0 ? first : second);
            check.due("child 5's copy 1, way " + way, x.origin(5, 1, way), bit(way, 5) == 0 ? first : second);
        }
    }

    private static void wrongInputs(Check check) {
        LinkedMarkers x = new LinkedMarkers();
        check.dueOutOfBounds("origin(0, 0, 0) with nobody", () -> x.origin(0, 0, 0));
        x.founder();
        check.due("origin(0, 1, 0), the one way", x.origin(0, 1, 0), 1);
        check.dueOutOfBounds("origin(0, 0, 1) without a child", () -> x.origin(0, 0, 1));
        x.child(0, 0);
        check.due("origin(0, 0, 3)", x.origin(0, 0, 3), 0);
        check.dueOutOfBounds("origin(0, 0, 4)", () -> x.origin(0, 0, 4));
        check.dueOutOfBounds("origin(0, 0, -1)", () -> x.origin(0, 0, -1));
        check.dueOutOfBounds("origin(2, 0, 0)", () -> x.origin(2, 0, 0));
        check.dueOutOfBounds("origin(-1, 0, 0)", () -> x.origin(-1, 0, 0));
        check.dueOutOfBounds("origin(1, 2, 0)", () -> x.origin(1, 2, 0));
        check.dueOutOfBounds("origin(1, -1, 0)", () -> x.origin(1, -1, 0));
        check.dueOutOfBounds("origin(0, 2, 0) of a founder", () -> x.origin(0, 2, 0));
    }
}
