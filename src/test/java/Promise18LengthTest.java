/** Promise 18: length. */
public final class Promise18LengthTest {
    public static void main(String[] args) {
        Check check = new Check();
        LinkedMarkers x = new LinkedMarkers();
        check.due("length() of a new page", x.length(), 0);
        Check.thrownBy(x::joint);
        check.due("length() after a throw", x.length(), 0);
        x.marker(4, 4, 0);
        check.due("length() before joint()", x.length(), 0);
        x.joint();
        check.due("length() of 1", x.length(), 1);
        x.founder();
        check.due("length() stays 1", x.length(), 1);
        x.joint();
        check.due("length() of 64", x.length(), 2);
        x.founder();
        x.joint();
        check.due("length() of 4096", x.length(), 4);
        x.odds(10);
        x.likely(0);
        check.due("length() after other calls", x.length(), 4);
        x.see(0, 0, 3, 3);
        x.joint();
        check.due("length() of 0", x.length(), 1);
        check.end();
    }
}
