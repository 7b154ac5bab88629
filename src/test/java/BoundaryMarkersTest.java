/** The boundary cases of promises 4 and 5, and of the terms that they lean on: markers and gaps. */
public final class BoundaryMarkersTest {
    private static final int MIN = Integer.MIN_VALUE;
    private static final int MAX = Integer.MAX_VALUE;

    public static void main(String[] args) {
        Sentences sentences = new Sentences();
        sentences.hold("Terms: MARKERS, at most 4, are numbered from 0 on", BoundaryMarkersTest::numbersOfMarkers);
        sentences.hold("Promise 4: IllegalArgument: a weight is below 0", BoundaryMarkersTest::weightBelowNought);
        sentences.hold("Promise 4: or they do not make up 8", BoundaryMarkersTest::smallWeights);
        sentences.hold("Terms: WEIGHTS of the letters 1, 2, 3, in eighths, that make up 8",
                BoundaryMarkersTest::weightsThatWrapAround);
        sentences.hold("Terms: with the marker's weights as its probabilities",
                BoundaryMarkersTest::leastAndGreatestWeight);
        sentences.hold("Promise 4: IllegalState: there are 4.", BoundaryMarkersTest::fifthMarker);
        sentences.hold("Promise 4: A marker more, behind the others", BoundaryMarkersTest::markerWhileSeen);
        sentences.hold("Terms: Behind each marker but the last one is a GAP g", BoundaryMarkersTest::firstAndLastGap);
        sentences.hold("Terms: with a RATE k, in sixteenths, 0 .. 8, at first 8.", BoundaryMarkersTest::rateAtFirst);
        sentences.hold("Terms: there is no such person, marker, gap or copy", BoundaryMarkersTest::noSuchMarker);
        sentences.hold("Promise 5: The rate of a gap; what it was.", BoundaryMarkersTest::whatItWas);
        sentences.hold("Promise 5: what it was. IndexOutOfBounds", BoundaryMarkersTest::rateOfNoGap);
        sentences.hold("Promise 5: IllegalArgument: it is not 0 .. 8.", BoundaryMarkersTest::noSuchRate);
        sentences.hold("Terms: from one marker to the next each bit of the way changes by itself with the gap's"
                + " rate as its probability", BoundaryMarkersTest::leastAndGreatestRate);
        sentences.hold("Terms: At marker 0 all ways are equally probable", BoundaryMarkersTest::equalAtFirst);
        sentences.end();
    }

    private static LinkedMarkers withMarkers(int markers) {
        LinkedMarkers x = new LinkedMarkers();
        Families.markers(x, markers);
        return x;
    }

    private static void numbersOfMarkers(Check check) {
        LinkedMarkers x = new LinkedMarkers();
        for (int m = 0; m < 4; m++) {
            int next = m;
            check.due("count(3)", x.count(3), m);
            check.dueOutOfBounds("fit(" + m + ", 0) before it is there", () -> x.fit(next, 0));
            check.due("marker(2, 2, 4)", x.marker(2, 2, 4), m);
            check.due("fit(" + m + ", 0)", x.fit(m, 0), 1);
        }
        check.due("count(3)", x.count(3), 4);
        int[] wrong = {-1, 4, 5, MIN, MAX};
        for (int marker : wrong) {
            check.dueOutOfBounds("fit(" + marker + ", 0)", () -> x.fit(marker, 0));
            check.dueOutOfBounds("likely(" + marker + ")", () -> x.likely(marker));
        }
    }

    /** All of these make up 8. */
    private static void weightBelowNought(Check check) {
        LinkedMarkers x = new LinkedMarkers();
        check.dueBadArgument("marker(-1, 0, 9)", () -> x.marker(-1, 0, 9));
        check.dueBadArgument("marker(9, -1, 0)", () -> x.marker(9, -1, 0));
        check.dueBadArgument("marker(0, 9, -1)", () -> x.marker(0, 9, -1));
        check.dueBadArgument("marker(-1, 1, 8)", () -> x.marker(-1, 1, 8));
        check.dueBadArgument("marker(4, 5, -1)", () -> x.marker(4, 5, -1));
        check.dueBadArgument("marker(-4, -4, 16)", () -> x.marker(-4, -4, 16));
        check.dueBadArgument("marker(MIN, MIN, 8)", () -> x.marker(MIN, MIN, 8));
        check.dueBadArgument("marker(MIN, 8, MIN)", () -> x.marker(MIN, 8, MIN));
        check.dueBadArgument("marker(8, MIN, MIN)", () -> x.marker(8, MIN, MIN));
        check.dueBadArgument("marker(MIN, MAX, 9)", () -> x.marker(MIN, MAX, 9));
        check.due("count(3)", x.count(3), 0);
    }

    /** Every three from -1 to 9: 45 of them are weights. */
    private static void smallWeights(Check check) {
        int taken = 0;
        for (int one = -1; one <= 9; one++) {
            for (int two = -1; two <= 9; two++) {
                for (int three = -1; three <= 9; three++) {
                    taken += markerIsTakenAsDue(check, one, two, three) ? 1 : 0;
                }
            }
        }
        check.due("how many are weights", taken, 45);
    }

    private static boolean markerIsTakenAsDue(Check check, int one, int two, int three) {
        LinkedMarkers x = new LinkedMarkers();
        boolean due = one >= 0 && two >= 0 && three >= 0 && one + two + three == 8;
        String call = "marker(" + one + ", " + two + ", " + three + ")";
        String thrown = Check.thrownBy(() -> x.marker(one, two, three));
        check.due(call, thrown, due ? "nothing" : "IllegalArgumentException");
        check.due("count(3) after " + call, x.count(3), due ? 1 : 0);
        return due;
    }

    /** 2^32 + 8 in all, which an int can't tell from 8. */
    private static void weightsThatWrapAround(Check check) {
        LinkedMarkers x = new LinkedMarkers();
        check.dueBadArgument("marker(MAX, MAX, 10)", () -> x.marker(MAX, MAX, 10));
        check.dueBadArgument("marker(MAX, 10, MAX)", () -> x.marker(MAX, 10, MAX));
        check.dueBadArgument("marker(10, MAX, MAX)", () -> x.marker(10, MAX, MAX));
        int third = 1431655768;
        check.dueBadArgument("three times 2^32 / 3", () -> x.marker(third, third, third));
        check.dueBadArgument("marker(MAX, 5, 4)", () -> x.marker(MAX, 5, 4));
        check.due("count(3)", x.count(3), 0);
    }

    /** A letter of the weight 0 can't be there, one of the weight 8 must be. */
    private static void leastAndGreatestWeight(Check check) {
        for (int sure = 1; sure <= 3; sure++) {
            LinkedMarkers x = new LinkedMarkers();
            x.founder();
            x.marker(sure == 1 ? 8 : 0, sure == 2 ? 8 : 0, sure == 3 ? 8 : 0);
            for (int one = 1; one <= 3; one++) {
                for (int other = 1; other <= 3; other++) {
                    x.see(0, 0, one, other);
                    String seen = "fit(0, 0) seen with " + one + ", " + other + ", sure is " + sure;
                    check.due(seen, x.fit(0, 0), one == sure && other == sure ? 64 : 0);
                }
            }
        }
    }

    private static void fifthMarker(Check check) {
        LinkedMarkers x = withMarkers(4);
        check.dueBadState("marker(2, 2, 4), the fifth", () -> x.marker(2, 2, 4));
        check.dueBadState("marker(8, 0, 0), the fifth", () -> x.marker(8, 0, 0));
        check.due("count(3)", x.count(3), 4);
        check.dueOutOfBounds("rate(3, 0)", () -> x.rate(3, 0));
        x.founder();
        x.see(0, 3, 3, 3);
        check.due("fit(3, 0) by the fourth's weights", x.fit(3, 0), 16);
    }

    /** Only persons are refused while somebody is seen. */
    private static void markerWhileSeen(Check check) {
        LinkedMarkers x = new LinkedMarkers();
        x.founder();
        x.marker(1, 2, 5);
        x.see(0, 0, 1, 1);
        for (int m = 1; m < 4; m++) {
            check.due("marker(1, 2, 5) with somebody seen", x.marker(1, 2, 5), m);
            check.due("fit(" + m + ", 0), nobody seen there", x.fit(m, 0), 64);
            check.due("fit(0, 0)", x.fit(0, 0), 1);
        }
    }

    private static void firstAndLastGap(Check check) {
        for (int markers = 0; markers <= 4; markers++) {
            LinkedMarkers x = withMarkers(markers);
            int none = Math.max(0, markers - 1);
            for (int gap = 0; gap < none; gap++) {
                check.due("rate(" + gap + ", 8)", x.rate(gap, 8), 8);
                check.due("would(" + gap + ", 8)", x.would(gap, 8), 0);
                check.due("best(" + gap + ")", x.best(gap), 0);
            }
            int[] wrong = {-1, none, none + 1, 3, MIN, MAX};
            for (int gap : wrong) {
                String of = "gap " + gap + " of " + markers + " markers";
                check.dueOutOfBounds("rate, " + of, () -> x.rate(gap, 8));
                check.dueOutOfBounds("would, " + of, () -> x.would(gap, 8));
                check.dueOutOfBounds("best, " + of, () -> x.best(gap));
            }
        }
    }

    /** Also when the gaps before it have other rates by then. */
    private static void rateAtFirst(Check check) {
        LinkedMarkers x = withMarkers(1);
        for (int gap = 0; gap < 3; gap++) {
            x.marker(2, 2, 4);
            check.due("the rate of gap " + gap + " at first", x.rate(gap, 2 * gap), 8);
        }
        for (int gap = 0; gap < 3; gap++) {
            check.due("the rate of gap " + gap, x.rate(gap, 8), 2 * gap);
        }
    }

    private static void whatItWas(Check check) {
        LinkedMarkers x = withMarkers(4);
        for (int gap = 0; gap < 3; gap++) {
            int before = 8;
            for (int k = 0; k <= 8; k++) {
                check.due("rate(" + gap + ", " + k + ")", x.rate(gap, k), before);
                check.due("rate(" + gap + ", " + k + ") once more", x.rate(gap, k), k);
                before = k;
            }
            check.due("from the highest to the lowest", x.rate(gap, 0), 8);
            check.due("from the lowest to the highest", x.rate(gap, 8), 0);
        }
    }

    /** Nor does a marker have a rate by itself: with one of them there is no gap yet. */
    private static void rateOfNoGap(Check check) {
        for (int markers = 0; markers <= 4; markers++) {
            LinkedMarkers x = withMarkers(markers);
            int[] wrong = {-1, Math.max(0, markers - 1), markers, MIN, MAX};
            for (int gap : wrong) {
                check.dueOutOfBounds("rate(" + gap + ", 0), " + markers + " markers", () -> x.rate(gap, 0));
            }
            for (int gap = 0; gap < markers - 1; gap++) {
                check.due("rate(" + gap + ", 0) after the throws", x.rate(gap, 0), 8);
            }
        }
    }

    private static void noSuchMarker(Check check) {
        for (int markers = 0; markers <= 4; markers++) {
            LinkedMarkers x = Families.grandchild(markers);
            int[] wrong = {-1, markers, markers + 1, MIN, MAX};
            for (int marker : wrong) {
                String of = "marker " + marker + " of " + markers;
                check.dueOutOfBounds("see, " + of, () -> x.see(0, marker, 1, 1));
                check.dueOutOfBounds("unsee, " + of, () -> x.unsee(0, marker));
                check.dueOutOfBounds("fit, " + of, () -> x.fit(marker, 0));
                check.dueOutOfBounds("turned, " + of, () -> x.turned(marker, 0));
                check.dueOutOfBounds("shared, " + of, () -> x.shared(marker, 0, 0));
                check.dueOutOfBounds("likely, " + of, () -> x.likely(marker));
            }
        }
    }

    private static void noSuchRate(Check check) {
        LinkedMarkers x = withMarkers(4);
        int[] wrong = {-1, 9, 10, 16, MIN, MAX};
        for (int gap = 0; gap < 3; gap++) {
            int here = gap;
            x.rate(gap, gap + 1);
            for (int k : wrong) {
                check.dueBadArgument("rate(" + gap + ", " + k + ")", () -> x.rate(here, k));
            }
            check.due("the rate stays", x.rate(gap, 0), gap + 1);
        }
    }

    /** With 0 no bit ever changes; with 8 what is known at one marker says nothing of the next. */
    private static void leastAndGreatestRate(Check check) {
        LinkedMarkers x = Families.grandchild(4);
        Families.seeGrandchild(x, 0, 2);
        check.due("turned(3, 2) with the rates 8", x.turned(3, 2), 500);
        for (int gap = 0; gap < 3; gap++) {
            x.rate(gap, 0);
        }
        check.due("turned(3, 2) with the rates 0", x.turned(3, 2), 1000);
        x.rate(1, 8);
        check.due("turned(1, 2) before the one rate 8", x.turned(1, 2), 1000);
        check.due("turned(2, 2) behind the one rate 8", x.turned(2, 2), 500);
        Families.seeGrandchild(x, 1, 1);
        check.due("a change at the rate 0", Check.jointOf(x), "0");
    }

    private static void equalAtFirst(Check check) {
        LinkedMarkers x = Families.largest();
        for (int bit = 0; bit < 6; bit++) {
            check.due("turned(0, " + bit + ")", x.turned(0, bit), 500);
        }
        check.due("likely(0)", x.likely(0), 0);
    }
}
