/** Promise 19: charAt. */
public final class Promise19CharAtTest {
    public static void main(String[] args) {
        Check check = new Check();
        LinkedMarkers x = new LinkedMarkers();
        dueText(check, x, "");
        x.marker(4, 4, 0);
        x.founder();
        x.founder();
        dueText(check, x, "");
        x.joint();
        dueText(check, x, "4096");
        x.see(0, 0, 1, 1);
        dueText(check, x, "4096");
        x.joint();
        dueText(check, x, "1024");
        x.see(1, 0, 3, 3);
        x.joint();
        dueText(check, x, "0");
        x.see(1, 0, 2, 1);
        x.joint();
        dueText(check, x, "512");
        check.end();
    }

    private static void dueText(Check check, LinkedMarkers x, String text) {
        for (int p = 0; p < text.length(); p++) {
            check.due("charAt(" + p + ") of " + text, x.charAt(p), text.charAt(p));
        }
        int[] outside = {-1, text.length(), text.length() + 1, 45, 46, 53, 54, 1000,
            Integer.MAX_VALUE, Integer.MIN_VALUE};
        for (int p : outside) {
            check.due("charAt(" + p + ") of " + text, x.charAt(p), ' ');
        }
    }
}
