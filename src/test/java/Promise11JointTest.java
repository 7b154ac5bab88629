import java.math.BigInteger;

/** Promise 11: joint. */
public final class Promise11JointTest {
    public static void main(String[] args) {
        Check check = new Check();
        withoutMarker(check);
        allIsSure(check);
        insteadOfWhatWasThere(check);
        oneMarker(check);
        twoMarkers(check);
        check.end();
    }

    private static void withoutMarker(Check check) {
        LinkedMarkers x = new LinkedMarkers();
        check.dueBadState("joint() of a new object", x::joint);
        x.founder();
        x.child(0, 0);
        check.dueBadState("joint() without a marker", x::joint);
        check.due("length() after the throws", x.length(), 0);
    }

    /** With nobody seen the data are sure, so JOINT is 2^E, whatever the rates. */
    private static void allIsSure(Check check) {
        LinkedMarkers x = new LinkedMarkers();
        for (int step = 0; step < 3; step++) {
            x.founder();
            x.child(step, step);
            x.marker(step, 8 - step, 0);
            dueSure(check, x);
        }
        x.marker(1, 1, 6);
        dueSure(check, x);
        check.due("joint() at the most", x.joint(), 46);
        x.rate(0, 0);
        x.rate(1, 3);
        dueSure(check, x);
        dueSure(check, Families.largest());
    }

    private static void dueSure(Check check, LinkedMarkers x) {
        String want = BigInteger.ONE.shiftLeft(x.count(5)).toString();
        check.due("joint()", x.joint(), want.length());
        check.due("the page", Check.page(x), want);
    }

    private static void insteadOfWhatWasThere(Check check) {
        LinkedMarkers x = new LinkedMarkers();
        x.founder();
        x.marker(8, 0, 0);
        check.due("joint()", x.joint(), 2);
        check.due("the page", Check.page(x), "64");
        x.see(0, 0, 1, 2);
        check.due("the page before the next joint()", Check.page(x), "64");
        check.due("joint() of what can't be", x.joint(), 1);
        check.due("the page", Check.page(x), "0");
        check.due("charAt(1) behind the 0", x.charAt(1), ' ');
        x.unsee(0, 0);
        x.see(0, 0, 1, 1);
        check.due("joint() of what is sure", x.joint(), 2);
        check.due("the page", Check.page(x), "64");
    }

    private static void oneMarker(Check check) {
        LinkedMarkers x = new LinkedMarkers();
        x.founder();
        x.child(0, 0);
        x.marker(1, 2, 5);
        x.see(1, 0, 2, 2);
        check.due("the sum of the fits", Check.jointOf(x), "40");
    }

    /** Of the 6 bits one must change: twice k * (16 - k)^5 + k^5 * (16 - k), the letters' 4 each. */
    private static void twoMarkers(Check check) {
        LinkedMarkers x = Families.selfed(2);
        Families.seeSelfed(x, 0, 1, 1);
        Families.seeSelfed(x, 1, 1, 2);
        for (int k = 0; k <= 8; k++) {
            x.rate(0, k);
            long stay = 16 - k;
            long pair = k * stay * stay * stay * stay * stay + stay * k * k * k * k * k;
            check.due("JOINT with the rate " + k, Check.jointOf(x), Long.toString(2 * 2 * 16 * pair));
        }
    }
}
