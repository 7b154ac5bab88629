/** The boundary cases of promises 6, 7 and 10, and of the terms that they lean on: what is seen. */
public final class BoundarySightTest {
    private static final int MIN = Integer.MIN_VALUE;
    private static final int MAX = Integer.MAX_VALUE;

    public static void main(String[] args) {
        Sentences sentences = new Sentences();
        sentences.hold("Promise 6: IndexOutOfBounds", BoundarySightTest::seeNobodyNowhere);
        sentences.hold("Promise 6: IllegalArgument: a letter is not 1 .. 3.", BoundarySightTest::noSuchLetter);
        sentences.hold("Terms: each of which has a LETTER 1, 2 or 3", BoundarySightTest::everyLetter);
        sentences.hold("Terms: told without an order", BoundarySightTest::eitherOrder);
        sentences.hold("Promise 6: in place of what was seen of it there.", BoundarySightTest::inPlace);
        sentences.hold("Promise 7: A person is not seen at a marker any more: whether it was.",
                BoundarySightTest::whetherItWas);
        sentences.hold("Promise 7: whether it was. IndexOutOfBounds.", BoundarySightTest::unseeNobodyNowhere);
        sentences.hold("Terms: At a marker a person may be SEEN with two letters", BoundarySightTest::everybodySeen);
        sentences.hold("Terms: times 8^(2 F), F being how many founders there are", BoundarySightTest::greatestFit);
        sentences.hold("Terms: just its two letters, one on either copy", BoundarySightTest::oneOnEitherCopy);
        sentences.hold("Terms: FIT(m, w) is the probability that at marker m, with the way w, what is seen there is so",
                BoundarySightTest::allThatCanBeSeen);
        sentences.hold("Promise 10: IndexOutOfBounds, also if there is no such way.", BoundarySightTest::noSuchWay);
        sentences.end();
    }

    private static LinkedMarkers threeFounders() {
        LinkedMarkers x = new LinkedMarkers();
        x.founder();
        x.founder();
        x.founder();
        x.marker(1, 2, 5);
        x.marker(3, 1, 4);
        return x;
    }

    private static void seeNobodyNowhere(Check check) {
        LinkedMarkers x = threeFounders();
        int[] nobody = {-1, 3, 4, 6, MIN, MAX};
        for (int person : nobody) {
            check.dueOutOfBounds("see(" + person + ", 0, 1, 1)", () -> x.see(person, 0, 1, 1));
        }
        int[] nowhere = {-1, 2, 3, 4, MIN, MAX};
        for (int marker : nowhere) {
            check.dueOutOfBounds("see(0, " + marker + ", 1, 1)", () -> x.see(0, marker, 1, 1));
        }
        x.see(2, 1, 1, 1);
        check.due("fit(1, 0) of the last person and marker", x.fit(1, 0), 9 * 4096);
        check.due("fit(0, 0)", x.fit(0, 0), 262144);
    }

    private static void noSuchLetter(Check check) {
        LinkedMarkers x = threeFounders();
        x.see(1, 1, 3, 1);
        int[] wrong = {0, 4, -1, 5, MIN, MAX};
        for (int letter : wrong) {
            for (int right = 1; right <= 3; right++) {
                int other = right;
                check.dueBadArgument("see(1, 1, " + letter + ", " + right + ")", () -> x.see(1, 1, letter, other));
                check.dueBadArgument("see(1, 1, " + right + ", " + letter + ")", () -> x.see(1, 1, other, letter));
            }
            check.dueBadArgument("see(0, 0, " + letter + ", " + letter + ")", () -> x.see(0, 0, letter, letter));
        }
        check.due("fit(1, 0), seen as before", x.fit(1, 0), 2 * 4 * 3 * 4096);
        check.dueTrue("person 0 is not seen", !x.unsee(0, 0));
        check.dueTrue("person 1 is seen", x.unsee(1, 1));
    }

    private static void everyLetter(Check check) {
        LinkedMarkers x = threeFounders();
        int[] weights = {1, 2, 5};
        for (int one = 1; one <= 3; one++) {
            for (int other = 1; other <= 3; other++) {
                x.see(2, 0, one, other);
                int orders = one == other ? 1 : 2;
                int want = orders * weights[one - 1] * weights[other - 1] * 4096;
                check.due("fit(0, 0) seen with " + one + ", " + other, x.fit(0, 0), want);
            }
        }
    }

    private static void eitherOrder(Check check) {
        for (int one = 1; one <= 3; one++) {
            for (int other = 1; other <= 3; other++) {
                LinkedMarkers x = Families.grandchild(2);
                LinkedMarkers y = Families.grandchild(2);
                x.see(3, 0, one, other);
                y.see(3, 0, other, one);
                x.see(4, 0, one, 3);
                y.see(4, 0, 3, one);
                check.due("JOINT with " + one + ", " + other, Check.jointOf(x), Check.jointOf(y));
                for (int way = 0; way < 16; way++) {
                    check.due("fit(0, " + way + ")", x.fit(0, way), y.fit(0, way));
                }
            }
        }
    }

    /** Seen three times, once by the same letters: one unsee takes all of it away. */
    private static void inPlace(Check check) {
        LinkedMarkers x = new LinkedMarkers();
        x.founder();
        x.marker(1, 2, 5);
        x.see(0, 0, 1, 1);
        x.see(0, 0, 3, 3);
        x.see(0, 0, 3, 3);
        check.due("fit(0, 0) by what was seen last", x.fit(0, 0), 25);
        check.dueTrue("unsee(0, 0) is true", x.unsee(0, 0));
        check.dueTrue("unsee(0, 0) again is false", !x.unsee(0, 0));
        check.due("fit(0, 0) with nobody seen", x.fit(0, 0), 64);
        check.due("founder() with nobody seen", x.founder(), 1);
    }

    private static void whetherItWas(Check check) {
        LinkedMarkers x = threeFounders();
        for (int person = 0; person < 3; person++) {
            for (int marker = 0; marker < 2; marker++) {
                check.dueTrue("never seen", !x.unsee(person, marker));
                x.see(person, marker, 2, 2);
                check.dueTrue("not the other marker", !x.unsee(person, 1 - marker));
                check.dueTrue("not the next person", !x.unsee((person + 1) % 3, marker));
                check.dueTrue("seen", x.unsee(person, marker));
                check.dueTrue("not seen any more", !x.unsee(person, marker));
            }
        }
        check.due("child(0, 0) with nobody seen", x.child(0, 0), 3);
    }

    private static void unseeNobodyNowhere(Check check) {
        LinkedMarkers x = threeFounders();
        x.see(0, 0, 1, 1);
        x.see(2, 1, 1, 1);
        int[] nobody = {-1, 3, 4, 6, MIN, MAX};
        for (int person : nobody) {
            check.dueOutOfBounds("unsee(" + person + ", 0)", () -> x.unsee(person, 0));
        }
        int[] nowhere = {-1, 2, 3, 4, MIN, MAX};
        for (int marker : nowhere) {
            check.dueOutOfBounds("unsee(0, " + marker + ")", () -> x.unsee(0, marker));
        }
        check.dueTrue("unsee(0, 0), the first of all", x.unsee(0, 0));
        check.dueTrue("unsee(2, 1), the last of all", x.unsee(2, 1));
    }

    /** 20 sightings; as long as one is left, nobody more can be told. */
    private static void everybodySeen(Check check) {
        LinkedMarkers x = new LinkedMarkers();
        x.founder();
        x.founder();
        x.child(0, 1);
        x.child(0, 1);
        x.child(2, 3);
        Families.markers(x, 4);
        for (int step = 0; step < 20; step++) {
            x.see(step % 5, step / 5, 1, 2);
        }
        for (int step = 0; step < 20; step++) {
            check.dueBadState("founder() with " + (20 - step) + " seen", x::founder);
            check.dueTrue("unsee", x.unsee(step % 5, step / 5));
        }
        check.due("founder() with nobody seen", x.founder(), 5);
    }

    private static void greatestFit(Check check) {
        LinkedMarkers x = new LinkedMarkers();
        x.marker(1, 2, 5);
        int[] fits = {1, 64, 4096, 262144};
        for (int founders = 0; founders <= 3; founders++) {
            check.due("fit(0, 0) with " + founders + " founders", x.fit(0, 0), fits[founders]);
            if (founders < 3) {
                x.founder();
            }
        }
        x.child(0, 1);
        x.child(1, 2);
        x.child(3, 4);
        check.due("fit(0, 0) does not go with the children", x.fit(0, 0), 262144);
        check.due("fit(0, 63)", x.fit(0, 63), 262144);
        LinkedMarkers sure = Families.largest();
        check.due("fit(3, 63) of what is sure", sure.fit(3, 63), 262144);
    }

    /** Both copies the same one: it can't have two letters. Two copies: not both have the one letter. */
    private static void oneOnEitherCopy(Check check) {
        LinkedMarkers x = new LinkedMarkers();
        x.founder();
        x.child(0, 0);
        x.marker(1, 2, 5);
        x.see(1, 0, 1, 2);
        int[] fits = {0, 4, 4, 0};
        for (int way = 0; way < 4; way++) {
            check.due("fit(0, " + way + "), the child seen with 1, 2", x.fit(0, way), fits[way]);
        }
        x.see(0, 0, 1, 1);
        for (int way = 0; way < 4; way++) {
            check.due("fit(0, " + way + "), the founder seen with 1, 1", x.fit(0, way), 0);
        }
    }

    /** What can be seen of the three founders, 6 pairs each, is all there is: the fits make up 8^6. */
    private static void allThatCanBeSeen(Check check) {
        int[][] pairs = {{1, 1}, {1, 2}, {1, 3}, {2, 2}, {2, 3}, {3, 3}};
        long sum = 0;
        for (int[] first : pairs) {
            for (int[] second : pairs) {
                LinkedMarkers x = threeFounders();
                x.see(0, 0, first[0], first[1]);
                x.see(1, 0, second[0], second[1]);
                for (int[] third : pairs) {
                    x.see(2, 0, third[0], third[1]);
                    sum += x.fit(0, 0);
                }
            }
        }
        check.due("the sum of the fits", sum, 262144);
    }

    private static void noSuchWay(Check check) {
        int[] ways = {1, 4, 16, 64};
        for (int children = 0; children <= 3; children++) {
            LinkedMarkers x = new LinkedMarkers();
            x.marker(1, 2, 5);
            x.founder();
            for (int c = 0; c < children; c++) {
                x.child(0, c);
            }
            int none = ways[children];
            check.due("fit(0, " + (none - 1) + ")", x.fit(0, none - 1), 64);
            int[] wrong = {-1, none, none + 1, MIN, MAX};
            for (int way : wrong) {
                check.dueOutOfBounds("fit(0, " + way + ")", () -> x.fit(0, way));
            }
            int[] nowhere = {-1, 1, 4, MIN, MAX};
            for (int marker : nowhere) {
                check.dueOutOfBounds("fit(" + marker + ", 0)", () -> x.fit(marker, 0));
            }
        }
    }
}
