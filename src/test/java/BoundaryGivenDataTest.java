/** The boundary cases of promises 15 to 17: how probable something is, given the data. */
public final class BoundaryGivenDataTest {
    private static final int MIN = Integer.MIN_VALUE;
    private static final int MAX = Integer.MAX_VALUE;

    public static void main(String[] args) {
        Sentences sentences = new Sentences();
        sentences.hold("Promise 15: how probable it is, given the data, that at a marker a bit of the way is 1",
                BoundaryGivenDataTest::neverAndSurelyTurned);
        sentences.hold("Promise 15: NONE if the data have the probability 0.", BoundaryGivenDataTest::turnedOfNothing);
        sentences.hold("Promise 15: IndexOutOfBounds, also if there is no such bit.", BoundaryGivenDataTest::noSuchBit);
        sentences.hold("Promise 16: some copy of one person and some copy of another are the same copy of a founder",
                BoundaryGivenDataTest::neverAndSurelyShared);
        sentences.hold("Promise 16: NONE if the data have the probability 0.", BoundaryGivenDataTest::sharedOfNothing);
        sentences.hold("Promise 16: NONE if the data have the probability 0. IndexOutOfBounds.",
                BoundaryGivenDataTest::sharedByNobody);
        sentences.hold("Promise 17: The most probable way at a marker", BoundaryGivenDataTest::highestLikelyWay);
        sentences.hold("Promise 17: of several the least", BoundaryGivenDataTest::leastOfSeveral);
        sentences.hold("Promise 17: NONE if the data have the probability 0.", BoundaryGivenDataTest::likelyOfNothing);
        sentences.hold("Promise 17: NONE if the data have the probability 0. IndexOutOfBounds.",
                BoundaryGivenDataTest::likelyNowhere);
        sentences.hold("Terms: All quotients are rounded down.", BoundaryGivenDataTest::almostSureAndAlmostNever);
        sentences.end();
    }

    /** Three markers; bit 2 is known at the outer ones to be 0 (letter 1) or 1 (letter 2), with the rates 1. */
    private static LinkedMarkers between(int letter) {
        LinkedMarkers x = new LinkedMarkers();
        x.founder();
        x.founder();
        x.founder();
        x.child(0, 1);
        x.child(3, 2);
        for (int m = 0; m < 3; m++) {
            x.marker(1, 1, 6);
        }
        x.rate(0, 1);
        x.rate(1, 1);
        Families.seeGrandchild(x, 0, letter);
        Families.seeGrandchild(x, 2, letter);
        return x;
    }

    /** No bit may change, yet one does. */
    private static LinkedMarkers ruledOutByRates() {
        LinkedMarkers x = Families.grandchild(4);
        Families.seeGrandchild(x, 1, 1);
        Families.seeGrandchild(x, 2, 2);
        x.rate(1, 0);
        return x;
    }

    private static void neverAndSurelyTurned(Check check) {
        for (int letter = 1; letter <= 2; letter++) {
            LinkedMarkers x = Families.grandchild(4);
            for (int m = 0; m < 4; m++) {
                Families.seeGrandchild(x, m, letter);
            }
            for (int m = 0; m < 4; m++) {
                check.due("turned(" + m + ", 2), the letter " + letter, x.turned(m, 2), letter == 1 ? 0 : 1000);
            }
        }
    }

    private static void turnedOfNothing(Check check) {
        LinkedMarkers x = ruledOutByRates();
        for (int m = 0; m < 4; m++) {
            for (int bit = 0; bit < 4; bit++) {
                check.due("turned(" + m + ", " + bit + ")", x.turned(m, bit), -1);
            }
        }
        x.rate(1, 1);
        check.due("turned(1, 2) with the rate 1", x.turned(1, 2), 0);
        check.due("turned(2, 2) with the rate 1", x.turned(2, 2), 1000);
    }

    private static void noSuchBit(Check check) {
        for (int children = 0; children <= 3; children++) {
            LinkedMarkers x = new LinkedMarkers();
            x.founder();
            for (int c = 0; c < children; c++) {
                x.child(c, 0);
            }
            x.marker(2, 2, 4);
            for (int bit = 0; bit < 2 * children; bit++) {
                check.due("turned(0, " + bit + ")", x.turned(0, bit), 500);
            }
            int[] wrong = {-1, 2 * children, 2 * children + 1, 32, 33, MIN, MAX};
            for (int bit : wrong) {
                check.dueOutOfBounds("turned(0, " + bit + ")", () -> x.turned(0, bit));
            }
        }
        LinkedMarkers nothing = ruledOutByRates();
        int[] nowhere = {-1, 4, MIN, MAX};
        for (int marker : nowhere) {
            check.dueOutOfBounds("turned(" + marker + ", 0)", () -> nothing.turned(marker, 0));
        }
        check.dueOutOfBounds("turned(0, 4) of what can't be", () -> nothing.turned(0, 4));
    }

    /** A person with itself, and a child with each parent, always; founders with one another never. */
    private static void neverAndSurelyShared(Check check) {
        LinkedMarkers x = Families.grandchild(4);
        for (int m = 0; m < 4; m += 3) {
            for (int person = 0; person < 5; person++) {
                check.due("a person with itself", x.shared(m, person, person), 1000);
            }
            for (int founder = 0; founder < 3; founder++) {
                check.due("two founders", x.shared(m, founder, (founder + 1) % 3), 0);
            }
            check.due("father and child", x.shared(m, 0, 3), 1000);
            check.due("child and father", x.shared(m, 4, 3), 1000);
            check.due("child and no kin", x.shared(m, 3, 2), 0);
        }
        LinkedMarkers rare = new LinkedMarkers();
        rare.founder();
        rare.founder();
        rare.marker(1, 1, 6);
        rare.see(0, 0, 1, 1);
        rare.see(1, 0, 1, 1);
        check.due("two founders, JOINT being 1", rare.shared(0, 0, 1), 0);
        check.due("a founder with itself, JOINT being 1", rare.shared(0, 1, 1), 1000);
        LinkedMarkers selfed = Families.selfed(1);
        check.due("two children of one alone", selfed.shared(0, 1, 3), 875);
        check.due("one alone and its child", selfed.shared(0, 0, 3), 1000);
    }

    private static void sharedOfNothing(Check check) {
        LinkedMarkers x = ruledOutByRates();
        for (int m = 0; m < 4; m++) {
            check.due("a person with itself", x.shared(m, 0, 0), -1);
            check.due("two founders", x.shared(m, 0, 1), -1);
            check.due("father and child", x.shared(m, 0, 3), -1);
        }
        x.rate(1, 1);
        check.due("shared(1, 0, 4) with the rate 1", x.shared(1, 0, 4), 1000);
        check.due("shared(2, 0, 4) with the rate 1", x.shared(2, 0, 4), 0);
    }

    private static void sharedByNobody(Check check) {
        LinkedMarkers x = Families.grandchild(2);
        LinkedMarkers nothing = ruledOutByRates();
        int[] nobody = {-1, 5, 6, MIN, MAX};
        for (int person : nobody) {
            check.dueOutOfBounds("shared(0, " + person + ", 0)", () -> x.shared(0, person, 0));
            check.dueOutOfBounds("shared(0, 0, " + person + ")", () -> x.shared(0, 0, person));
            check.dueOutOfBounds("shared(0, 0, " + person + ") of what can't be", () -> nothing.shared(0, 0, person));
        }
        int[] nowhere = {-1, 2, 4, MIN, MAX};
        for (int marker : nowhere) {
            check.dueOutOfBounds("shared(" + marker + ", 0, 0)", () -> x.shared(marker, 0, 0));
        }
        check.due("shared(1, 4, 4), the last of all", x.shared(1, 4, 4), 1000);
        check.dueOutOfBounds("shared(0, 0, 0) without a marker", () -> Families.grandchild(0).shared(0, 0, 0));
    }

    /** Both children have twice what their parent has from its mother: all their bits are 1. */
    private static void highestLikelyWay(Check check) {
        LinkedMarkers x = new LinkedMarkers();
        x.founder();
        x.founder();
        x.child(0, 1);
        x.child(2, 2);
        x.child(2, 2);
        Families.markers(x, 4);
        x.see(0, 3, 1, 1);
        x.see(1, 3, 2, 2);
        x.see(3, 3, 2, 2);
        x.see(4, 3, 2, 2);
        check.due("likely(3)", x.likely(3), 60);
        check.due("likely(0) behind the rates 8", x.likely(0), 0);
        x.rate(0, 7);
        x.rate(1, 7);
        x.rate(2, 7);
        check.due("likely(0) behind the rates 7", x.likely(0), 60);
        x.see(3, 3, 1, 1);
        check.due("likely(3), one child with its grandfather's", x.likely(3), 48);
    }

    private static void leastOfSeveral(Check check) {
        LinkedMarkers x = Families.selfed(1);
        check.due("likely(0), all 64 ways alike", x.likely(0), 0);
        x.see(0, 0, 1, 2);
        x.see(1, 0, 2, 1);
        check.due("likely(0), 32 ways alike", x.likely(0), 1);
        x.see(3, 0, 1, 2);
        check.due("likely(0), 16 ways alike", x.likely(0), 17);
        x.see(2, 0, 1, 2);
        check.due("likely(0), 8 ways alike", x.likely(0), 21);
        check.due("likely(0) of nobody", alone().likely(0), 0);
    }

    private static LinkedMarkers alone() {
        LinkedMarkers x = new LinkedMarkers();
        x.marker(8, 0, 0);
        return x;
    }

    private static void likelyOfNothing(Check check) {
        LinkedMarkers x = ruledOutByRates();
        for (int m = 0; m < 4; m++) {
            check.due("likely(" + m + ")", x.likely(m), -1);
        }
        x.rate(1, 1);
        check.due("likely(1) with the rate 1", x.likely(1), 0);
        check.due("likely(2) with the rate 1", x.likely(2), 4);
    }

    private static void likelyNowhere(Check check) {
        for (int markers = 0; markers <= 4; markers++) {
            LinkedMarkers x = Families.grandchild(markers);
            int[] wrong = {-1, markers, markers + 1, MIN, MAX};
            for (int marker : wrong) {
                check.dueOutOfBounds("likely(" + marker + ") of " + markers, () -> x.likely(marker));
            }
        }
        check.due("likely(3), the last marker", Families.grandchild(4).likely(3), 0);
        check.dueOutOfBounds("likely(4) of what can't be", () -> ruledOutByRates().likely(4));
    }

    /**
     * The outer markers say 225 to 1; that the grandchild has a letter of the weight 1 / 8, which its one
     * grandparent is seen with twice, says 8 to 1 more: 1800 of 1801.
     */
    private static void almostSureAndAlmostNever(Check check) {
        LinkedMarkers fromFather = between(1);
        check.due("turned(1, 2), 1 of 226", fromFather.turned(1, 2), 4);
        check.due("shared(1, 0, 4), 225 of 226", fromFather.shared(1, 0, 4), 995);
        fromFather.see(0, 1, 1, 1);
        fromFather.see(4, 1, 1, 3);
        fromFather.see(2, 1, 3, 3);
        check.due("turned(1, 2), 1 of 1801", fromFather.turned(1, 2), 0);
        check.due("shared(1, 0, 4), 1800 of 1801", fromFather.shared(1, 0, 4), 999);
        check.due("shared(1, 4, 1), 1 of 1801", fromFather.shared(1, 4, 1), 0);
        LinkedMarkers fromMother = between(2);
        check.due("turned(1, 2), 225 of 226", fromMother.turned(1, 2), 995);
        fromMother.see(1, 1, 2, 2);
        fromMother.see(4, 1, 2, 3);
        fromMother.see(2, 1, 3, 3);
        check.due("turned(1, 2), 1800 of 1801", fromMother.turned(1, 2), 999);
        check.due("shared(1, 1, 4), 1800 of 1801", fromMother.shared(1, 1, 4), 999);
        check.due("likely(1)", fromMother.likely(1), 4);
    }
}
