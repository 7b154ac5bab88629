import java.math.BigInteger;

/** Promise 5: rate. */
public final class Promise05RateTest {
    public static void main(String[] args) {
        Check check = new Check();
        whatItWas(check);
        wrongInputs(check);
        rateCounts(check);
        check.end();
    }

    private static LinkedMarkers withMarkers(int markers) {
        LinkedMarkers x = new LinkedMarkers();
        for (int m = 0; m < markers; m++) {
            x.marker(4, 4, 0);
        }
        return x;
    }

    private static void whatItWas(Check check) {
        LinkedMarkers x = withMarkers(4);
        for (int gap = 0; gap < 3; gap++) {
            check.due("rate(gap, 0) at first", x.rate(gap, 0), 8);
        }
        for (int k = 1; k <= 8; k++) {
            check.due("rate(1, " + k + ")", x.rate(1, k), k - 1);
        }
        check.due("rate(0, 5), not changed by gap 1", x.rate(0, 5), 0);
        check.due("rate(2, 5), not changed by gap 1", x.rate(2, 5), 0);
    }

    private static void wrongInputs(Check check) {
        LinkedMarkers none = withMarkers(0);
        check.dueOutOfBounds("rate(0, 1) without a marker", () -> none.rate(0, 1));
        check.dueOutOfBounds("rate(-1, 1) without a marker", () -> none.rate(-1, 1));
        LinkedMarkers one = withMarkers(1);
        check.dueOutOfBounds("rate(0, 1) with one marker", () -> one.rate(0, 1));
        LinkedMarkers x = withMarkers(3);
        check.dueOutOfBounds("rate(-1, 1)", () -> x.rate(-1, 1));
        check.dueOutOfBounds("rate(2, 1)", () -> x.rate(2, 1));
        check.dueOutOfBounds("rate(2, 9): the first one wins", () -> x.rate(2, 9));
        check.dueBadArgument("rate(0, -1)", () -> x.rate(0, -1));
        check.dueBadArgument("rate(0, 9)", () -> x.rate(0, 9));
        check.dueBadArgument("rate(0, MIN)", () -> x.rate(0, Integer.MIN_VALUE));
        check.due("rate(0, 4) after the throws", x.rate(0, 4), 8);
    }

    /** One bit must change or not: the grandchild has its grandfather's letter 1 at marker 0, then 2. */
    private static void rateCounts(Check check) {
        LinkedMarkers x = Families.grandchild(2);
        Families.seeGrandchild(x, 0, 1);
        Families.seeGrandchild(x, 1, 2);
        x.rate(0, 1);
        BigInteger unit = new BigInteger(Check.jointOf(x));
        check.dueTrue("JOINT with the rate 1 is more than 0", unit.signum() > 0);
        for (int k = 0; k <= 8; k++) {
            x.rate(0, k);
            String want = unit.multiply(BigInteger.valueOf(k)).toString();
            check.due("JOINT with the rate " + k, Check.jointOf(x), want);
        }
    }
}
