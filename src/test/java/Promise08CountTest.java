/** Promise 8: count. */
public final class Promise08CountTest {
    public static void main(String[] args) {
        Check check = new Check();
        LinkedMarkers x = new LinkedMarkers();
        dueCounts(check, x, 0, 0, 0, 1, 0);
        x.founder();
        x.founder();
        x.child(0, 1);
        dueCounts(check, x, 2, 1, 0, 4, 2);
        x.marker(4, 4, 0);
        dueCounts(check, x, 2, 1, 1, 4, 2 + 12);
        x.marker(4, 4, 0);
        dueCounts(check, x, 2, 1, 2, 4, 2 + 24 + 8);
        x.child(0, 0);
        dueCounts(check, x, 2, 2, 2, 16, 4 + 24 + 16);
        x.founder();
        x.child(2, 3);
        x.marker(8, 0, 0);
        x.marker(0, 8, 0);
        dueCounts(check, x, 3, 3, 4, 64, 150);
        x.see(0, 0, 1, 1);
        x.rate(1, 0);
        dueCounts(check, x, 3, 3, 4, 64, 150);
        int[] others = {6, 7, -1, -2, 100, Integer.MAX_VALUE, Integer.MIN_VALUE};
        for (int what : others) {
            check.due("count(" + what + ")", x.count(what), LinkedMarkers.NONE);
        }
        check.end();
    }

    private static void dueCounts(Check check, LinkedMarkers x, int founders, int children, int... rest) {
        check.due("count(0)", x.count(0), founders + children);
        check.due("count(1)", x.count(1), founders);
        check.due("count(2)", x.count(2), children);
        check.due("count(3)", x.count(3), rest[0]);
        check.due("count(4)", x.count(4), rest[1]);
        check.due("count(5)", x.count(5), rest[2]);
    }
}
