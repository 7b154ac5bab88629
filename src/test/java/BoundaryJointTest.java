import java.math.BigInteger;

/** The boundary cases of promises 11 to 14, 18 and 19, and of JOINT, FREE and the page. */
public final class BoundaryJointTest {
    private static final int MIN = Integer.MIN_VALUE;
    private static final int MAX = Integer.MAX_VALUE;
    private static final String GREATEST = "1427247692705959881058285969449495136382746624";

    public static void main(String[] args) {
        Sentences sentences = new Sentences();
        sentences.hold("Promise 11: IllegalState: there is no marker.", BoundaryJointTest::jointWithoutMarker);
        sentences.hold("Terms: JOINT is the probability of the data, times 2^E", BoundaryJointTest::leastAndGreatest);
        sentences.hold("Terms: so that it is whole", BoundaryJointTest::leastThatIsNotNought);
        sentences.hold("Promise 11: Writes JOINT in decimal on the page", BoundaryJointTest::powersOfTen);
        sentences.hold("Promise 11: instead of what was there", BoundaryJointTest::shorterThanBefore);
        sentences.hold("Promise 11: how many digits", BoundaryJointTest::howManyDigits);
        sentences.hold("Promise 12: NONE if FREE is 0.", BoundaryJointTest::freeIsNought);
        sentences.hold("Promise 12: IllegalArgument: n is not 1 .. 1000", BoundaryJointTest::noSuchN);
        sentences.hold("Promise 12: IllegalState: there is no marker.", BoundaryJointTest::oddsWithoutMarker);
        sentences.hold("Promise 12: JOINT * n / FREE", BoundaryJointTest::everyN);
        sentences.hold("Terms: FREE is JOINT with all rates 8 instead of those that are.",
                BoundaryJointTest::greatestOdds);
        sentences.hold("Promise 13: Whether JOINT would be greater (1), the same (0) or less (-1)",
                BoundaryJointTest::fromEachRateToEach);
        sentences.hold("Promise 13: the same (0)", BoundaryJointTest::sameWhateverTheRate);
        sentences.hold("Promise 13: IndexOutOfBounds", BoundaryJointTest::wouldOfNoGap);
        sentences.hold("Promise 13: IllegalArgument: k is not 0 .. 8.", BoundaryJointTest::wouldOfNoRate);
        sentences.hold("Promise 14: The rate with which JOINT would be the greatest",
                BoundaryJointTest::lowestAndHighestBest);
        sentences.hold("Promise 14: of several the least", BoundaryJointTest::leastOfAll);
        sentences.hold("Promise 14: of several the least (of two)", BoundaryJointTest::leastOfTwo);
        sentences.hold("Promise 14: IndexOutOfBounds.", BoundaryJointTest::bestOfNoGap);
        sentences.hold("Promise 18: How many characters the page has.", BoundaryJointTest::onlyJointWrites);
        sentences.hold("Promise 19: a space when there is none.", BoundaryJointTest::outsideThePage);
        sentences.end();
    }

    /** The grandchild's letter shows that one bit changes in the gap: JOINT goes with its rate. */
    private static LinkedMarkers oneChange() {
        LinkedMarkers x = Families.grandchild(2);
        Families.seeGrandchild(x, 0, 1);
        Families.seeGrandchild(x, 1, 2);
        return x;
    }

    /** A child has none of its father's letters. */
    private static LinkedMarkers impossible() {
        LinkedMarkers x = Families.grandchild(3);
        x.see(0, 1, 1, 1);
        x.see(3, 1, 2, 2);
        return x;
    }

    private static void jointWithoutMarker(Check check) {
        LinkedMarkers x = new LinkedMarkers();
        check.dueBadState("joint() of nothing", x::joint);
        x.founder();
        x.child(0, 0);
        check.dueBadState("joint() of two persons", x::joint);
        check.due("length()", x.length(), 0);
        check.due("charAt(0)", x.charAt(0), ' ');
        x.marker(8, 0, 0);
        check.due("joint() with the first marker", x.joint(), 3);
        check.due("the page", Check.page(x), "256");
    }

    private static void leastAndGreatest(Check check) {
        LinkedMarkers nobody = new LinkedMarkers();
        for (int markers = 1; markers <= 4; markers++) {
            nobody.marker(8, 0, 0);
            check.due("JOINT of nobody", Check.jointOf(nobody), "1");
        }
        check.due("JOINT of what can't be", Check.jointOf(impossible()), "0");
        check.due("JOINT of what is sure", Check.jointOf(Families.largest()), GREATEST);
    }

    /** Letters of the weight 1 and bits that change at the rate 1 leave nothing over to divide by. */
    private static void leastThatIsNotNought(Check check) {
        LinkedMarkers x = new LinkedMarkers();
        x.founder();
        x.marker(1, 1, 6);
        x.see(0, 0, 1, 1);
        check.due("JOINT of one founder", Check.jointOf(x), "1");
        LinkedMarkers selfed = new LinkedMarkers();
        selfed.founder();
        selfed.child(0, 0);
        selfed.child(0, 0);
        selfed.marker(1, 1, 6);
        selfed.marker(1, 1, 6);
        selfed.rate(0, 1);
        int[][] seen = {{1, 1, 2, 2}, {2, 2, 1, 1}};
        for (int m = 0; m < 2; m++) {
            selfed.see(0, m, 1, 2);
            selfed.see(1, m, seen[m][0], seen[m][1]);
            selfed.see(2, m, seen[m][2], seen[m][3]);
        }
        // At each marker two ways fit, by one letter order each; they differ in all four bits.
        check.due("JOINT of two children", Check.jointOf(selfed), Long.toString(2 * (50625 + 1)));
    }

    /** A founder seen with 1 and 3 counts 10, one with twice a 1 counts 1: a place of nine digits fills up. */
    private static void powersOfTen(Check check) {
        StringBuilder want = new StringBuilder("1");
        for (int tens = 0; tens <= 12; tens++) {
            LinkedMarkers x = new LinkedMarkers();
            LinkedMarkers withChildren = new LinkedMarkers();
            seeTens(x, 0, tens);
            seeTens(withChildren, 3, tens);
            check.due("joint()", x.joint(), tens + 1);
            check.due("10^" + tens, Check.page(x), want.toString());
            BigInteger more = new BigInteger(want.toString()).shiftLeft(6 + 72);
            check.due("10^" + tens + " * 2^78", Check.jointOf(withChildren), more.toString());
            want.append('0');
        }
    }

    private static void seeTens(LinkedMarkers x, int children, int tens) {
        x.founder();
        x.founder();
        x.founder();
        for (int c = 0; c < children; c++) {
            x.child(0, 1);
        }
        for (int m = 0; m < 4; m++) {
            x.marker(1, 2, 5);
        }
        for (int step = 0; step < 12; step++) {
            x.see(step % 3, step / 3, 1, step < tens ? 3 : 1);
        }
    }

    private static void shorterThanBefore(Check check) {
        LinkedMarkers x = Families.largest();
        check.due("joint()", x.joint(), 46);
        x.see(2, 0, 2, 2);
        check.due("the page before the next joint()", Check.page(x), GREATEST);
        check.due("joint() of what can't be", x.joint(), 1);
        check.due("length()", x.length(), 1);
        check.due("charAt(0)", x.charAt(0), '0');
        for (int p = 1; p <= 46; p++) {
            check.due("charAt(" + p + ") of 0", x.charAt(p), ' ');
        }
        x.see(2, 0, 1, 1);
        check.due("joint()", x.joint(), 46);
        check.due("the page", Check.page(x), GREATEST);
    }

    private static void howManyDigits(Check check) {
        check.due("joint() of 0", impossible().joint(), 1);
        LinkedMarkers x = new LinkedMarkers();
        x.marker(8, 0, 0);
        check.due("joint() of 1", x.joint(), 1);
        check.due("joint() of 2^150", Families.largest().joint(), 46);
        LinkedMarkers nine = new LinkedMarkers();
        seeTens(nine, 0, 8);
        check.due("joint() of 10^8", nine.joint(), 9);
        LinkedMarkers ten = new LinkedMarkers();
        seeTens(ten, 0, 9);
        check.due("joint() of 10^9", ten.joint(), 10);
    }

    /** But 0, not NONE, if only the rates make JOINT 0. */
    private static void freeIsNought(Check check) {
        LinkedMarkers x = impossible();
        check.due("odds(1)", x.odds(1), -1);
        check.due("odds(1000)", x.odds(1000), -1);
        x.rate(0, 0);
        check.due("odds(1) with a rate 0", x.odds(1), -1);
        x.unsee(0, 1);
        x.best(0);
        x.would(0, 1);
        x.see(0, 1, 1, 1);
        check.due("odds(1) after it could be for a while", x.odds(1), -1);
        LinkedMarkers changing = oneChange();
        changing.rate(0, 0);
        check.due("JOINT", Check.jointOf(changing), "0");
        check.due("odds(1000) with JOINT 0 and FREE more", changing.odds(1000), 0);
    }

    private static void noSuchN(Check check) {
        LinkedMarkers x = Families.largest();
        int[] wrong = {0, -1, 1001, 1002, MIN, MAX};
        for (int n : wrong) {
            check.dueBadArgument("odds(" + n + ")", () -> x.odds(n));
        }
        check.dueBadArgument("odds(0) of what can't be", () -> impossible().odds(0));
        check.due("odds(1)", x.odds(1), 1);
        check.due("odds(1000)", x.odds(1000), 1000);
    }

    private static void oddsWithoutMarker(Check check) {
        LinkedMarkers x = new LinkedMarkers();
        check.dueBadState("odds(1) of nothing", () -> x.odds(1));
        x.founder();
        check.dueBadState("odds(1) of a founder", () -> x.odds(1));
        check.dueBadState("odds(1000) of a founder", () -> x.odds(1000));
        x.marker(1, 1, 6);
        check.due("odds(1000) with the first marker", x.odds(1000), 1000);
    }

    /** Two objects, so that none is asked more than 512 times. */
    private static void everyN(Check check) {
        for (int half = 0; half < 2; half++) {
            LinkedMarkers x = oneChange();
            x.rate(0, 3);
            for (int n = 1 + 480 * half; n <= 480 + 480 * half; n++) {
                check.due("odds(" + n + ")", x.odds(n), n * 3 / 8);
            }
        }
        LinkedMarkers last = oneChange();
        last.rate(0, 3);
        for (int n = 961; n <= 1000; n++) {
            check.due("odds(" + n + ")", last.odds(n), n * 3 / 8);
        }
    }

    /** Two of 64 ways at each of four markers, and no change: 32^3 to 1. */
    private static void greatestOdds(Check check) {
        LinkedMarkers x = Families.selfed(4);
        for (int m = 0; m < 4; m++) {
            Families.seeSelfed(x, m, 1, 1);
        }
        check.due("odds(1000) with all rates 8", x.odds(1000), 1000);
        int[] odds = {32, 1024, 32768};
        for (int gap = 0; gap < 3; gap++) {
            x.rate(gap, 0);
            check.due("odds(1)", x.odds(1), odds[gap]);
            check.due("odds(1000)", x.odds(1000), 1000 * odds[gap]);
        }
    }

    private static void fromEachRateToEach(Check check) {
        LinkedMarkers x = oneChange();
        for (int from = 0; from <= 8; from++) {
            x.rate(0, from);
            for (int to = 0; to <= 8; to++) {
                check.due("would(0, " + to + ") at " + from, x.would(0, to), Integer.compare(to, from));
            }
        }
        check.due("the rate is the last told", x.rate(0, 0), 8);
    }

    private static void sameWhateverTheRate(Check check) {
        LinkedMarkers nobody = new LinkedMarkers();
        Families.markers(nobody, 4);
        for (int gap = 0; gap < 2; gap++) {
            check.due("of what can't be, to 0", impossible().would(gap, 0), 0);
            check.due("of what can't be, to 8", impossible().would(gap, 8), 0);
        }
        for (int gap = 0; gap < 3; gap++) {
            check.due("of what is sure, to 0", Families.largest().would(gap, 0), 0);
            check.due("of what is sure, to 8", Families.largest().would(gap, 8), 0);
            check.due("of nobody, to 0", nobody.would(gap, 0), 0);
        }
    }

    private static void wouldOfNoGap(Check check) {
        for (int markers = 0; markers <= 4; markers++) {
            LinkedMarkers x = new LinkedMarkers();
            Families.markers(x, markers);
            int[] wrong = {-1, Math.max(0, markers - 1), markers, MIN, MAX};
            for (int gap : wrong) {
                check.dueOutOfBounds("would(" + gap + ", 0), " + markers + " markers", () -> x.would(gap, 0));
            }
        }
        LinkedMarkers last = new LinkedMarkers();
        Families.markers(last, 4);
        check.due("would(2, 0), the last gap", last.would(2, 0), 0);
    }

    private static void wouldOfNoRate(Check check) {
        LinkedMarkers x = oneChange();
        int[] wrong = {-1, 9, 10, 16, MIN, MAX};
        for (int k : wrong) {
            check.dueBadArgument("would(0, " + k + ")", () -> x.would(0, k));
        }
        check.due("would(0, 0)", x.would(0, 0), -1);
        check.due("would(0, 8)", x.would(0, 8), 0);
    }

    /** Whatever the gap's own rate is. */
    private static void lowestAndHighestBest(Check check) {
        LinkedMarkers change = oneChange();
        LinkedMarkers noChange = Families.grandchild(2);
        Families.seeGrandchild(noChange, 0, 1);
        Families.seeGrandchild(noChange, 1, 1);
        for (int k = 0; k <= 8; k++) {
            change.rate(0, k);
            noChange.rate(0, k);
            check.due("best(0) where a bit changes, at " + k, change.best(0), 8);
            check.due("best(0) where none changes, at " + k, noChange.best(0), 0);
        }
        check.due("the rate stays", change.rate(0, 0), 8);
    }

    private static void leastOfAll(Check check) {
        for (int gap = 0; gap < 3; gap++) {
            check.due("best of what is sure", Families.largest().best(gap), 0);
        }
        for (int gap = 0; gap < 2; gap++) {
            check.due("best of what can't be", impossible().best(gap), 0);
        }
        LinkedMarkers nobody = new LinkedMarkers();
        Families.markers(nobody, 2);
        check.due("best of nobody", nobody.best(0), 0);
    }

    /** JOINT is greatest with two of the nine rates: the first and the last, then 4 and the last. */
    private static void leastOfTwo(Check check) {
        LinkedMarkers x = new LinkedMarkers();
        x.founder();
        x.founder();
        x.child(0, 1);
        x.child(2, 1);
        x.marker(6, 1, 1);
        x.marker(5, 1, 2);
        int[][] seen = {{0, 0, 2, 1}, {1, 0, 2, 1}, {3, 0, 1, 1}, {0, 1, 1, 1}, {2, 1, 1, 2}, {3, 1, 1, 1}};
        dueLeast(check, x, seen, 0);
        LinkedMarkers y = new LinkedMarkers();
        y.founder();
        y.founder();
        y.child(1, 1);
        y.child(0, 1);
        y.child(3, 1);
        y.marker(5, 1, 2);
        y.marker(5, 1, 2);
        int[][] seenOfMore = {{0, 0, 2, 2}, {1, 0, 2, 1}, {3, 0, 1, 2}, {4, 0, 2, 2}, {1, 1, 2, 1}, {2, 1, 2, 2},
            {4, 1, 2, 1}};
        dueLeast(check, y, seenOfMore, 4);
    }

    private static void dueLeast(Check check, LinkedMarkers x, int[][] seen, int least) {
        for (int[] one : seen) {
            x.see(one[0], one[1], one[2], one[3]);
        }
        x.rate(0, least);
        String greatest = Check.jointOf(x);
        x.rate(0, 8);
        check.due("JOINT with the rate 8", Check.jointOf(x), greatest);
        for (int k = 0; k < 8; k++) {
            check.due("would(0, " + k + ") at 8", x.would(0, k), k == least ? 0 : -1);
        }
        check.due("best(0)", x.best(0), least);
    }

    private static void bestOfNoGap(Check check) {
        for (int markers = 0; markers <= 4; markers++) {
            LinkedMarkers x = new LinkedMarkers();
            Families.markers(x, markers);
            int[] wrong = {-1, Math.max(0, markers - 1), markers, MIN, MAX};
            for (int gap : wrong) {
                check.dueOutOfBounds("best(" + gap + "), " + markers + " markers", () -> x.best(gap));
            }
        }
        check.due("best(2), the last gap", Families.largest().best(2), 0);
    }

    private static void onlyJointWrites(Check check) {
        LinkedMarkers x = Families.grandchild(2);
        check.due("length() of the empty page", x.length(), 0);
        x.joint();
        String page = Check.page(x);
        check.due("the page, 2^56", page, "72057594037927936");
        askAndChange(x);
        check.due("length() after all other calls", x.length(), page.length());
        check.due("the page after all other calls", Check.page(x), page);
    }

    private static void askAndChange(LinkedMarkers x) {
        x.child(0, 1);
        x.marker(8, 0, 0);
        x.rate(0, 1);
        x.see(0, 0, 1, 1);
        x.count(5);
        x.origin(0, 0, 0);
        x.fit(0, 0);
        x.odds(1000);
        x.would(0, 2);
        x.best(0);
        x.turned(0, 0);
        x.shared(0, 0, 1);
        x.likely(0);
        x.unsee(0, 0);
        Check.thrownBy(x::founder);
        Check.thrownBy(() -> x.odds(0));
    }

    private static void outsideThePage(Check check) {
        LinkedMarkers x = Families.largest();
        int[] outside = {-1, -46, 46, 47, 53, 54, 55, 1000, MIN, MAX};
        for (int p : outside) {
            check.due("charAt(" + p + ") of the empty page", x.charAt(p), ' ');
        }
        x.joint();
        check.due("charAt(0)", x.charAt(0), '1');
        check.due("charAt(45)", x.charAt(45), '4');
        for (int p : outside) {
            check.due("charAt(" + p + ")", x.charAt(p), ' ');
        }
    }
}
