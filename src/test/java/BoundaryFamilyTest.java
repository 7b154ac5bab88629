/** The boundary cases of promises 1, 2, 3, 8 and 9, and of the terms that they lean on: who there is. */
public final class BoundaryFamilyTest {
    private static final int MIN = Integer.MIN_VALUE;
    private static final int MAX = Integer.MAX_VALUE;

    public static void main(String[] args) {
        Sentences sentences = new Sentences();
        sentences.hold("Promise 1: No persons, no markers", BoundaryFamilyTest::nothingAtFirst);
        sentences.hold("Promise 1: the page is empty.", BoundaryFamilyTest::emptyPageAtFirst);
        sentences.hold("Terms: PERSONS are numbered from 0 on", BoundaryFamilyTest::numbersOfPersons);
        sentences.hold("Terms: at most 3 FOUNDERS", BoundaryFamilyTest::threeFoundersWithChildren);
        sentences.hold("Promise 2: IllegalState: there are 3", BoundaryFamilyTest::fourthFounder);
        sentences.hold("Promise 2: or somebody is seen at some marker.", BoundaryFamilyTest::founderWhileSeen);
        sentences.hold("Terms: at most 3 CHILDREN", BoundaryFamilyTest::threeChildrenOfOne);
        sentences.hold("Terms: of two other persons before them", BoundaryFamilyTest::parentsAreBefore);
        sentences.hold("Terms: A child's copy 0 is one of its father's two, its copy 1 one of its mother's",
                BoundaryFamilyTest::fatherThenMother);
        sentences.hold("Terms: both may be the same person", BoundaryFamilyTest::bothTheSame);
        sentences.hold("Promise 3: A child more: its number. IndexOutOfBounds", BoundaryFamilyTest::noSuchParent);
        sentences.hold("Promise 3: IllegalState: there are 3", BoundaryFamilyTest::fourthChild);
        sentences.hold("Promise 3: or somebody is seen at some marker.", BoundaryFamilyTest::childWhileSeen);
        sentences.hold("Promise 8: NONE for another what.", BoundaryFamilyTest::anotherWhat);
        sentences.hold("Promise 8: What = 0: how many persons there are; 1: founders; 2: children; 3: markers",
                BoundaryFamilyTest::fromNoneToAll);
        sentences.hold("Promise 8: 4: ways", BoundaryFamilyTest::howManyWays);
        sentences.hold("Terms: E is 2 C + 6 F M + 8 C G with M markers and G gaps",
                BoundaryFamilyTest::leastAndGreatestE);
        sentences.hold("Terms: a way is a number w from 0 to 4^C - 1", BoundaryFamilyTest::firstAndLastWay);
        sentences.hold("Terms: the bit is the number of the parent's copy", BoundaryFamilyTest::lowestAndHighestBit);
        sentences.hold("Promise 9: its number among the founders (0, 1, 2 in their order)",
                BoundaryFamilyTest::founderBehindChildren);
        sentences.hold("Promise 9: IndexOutOfBounds, also if there is no such way.", BoundaryFamilyTest::noSuchWay);
        sentences.hold("Terms: each person has two COPIES, 0 and 1", BoundaryFamilyTest::noSuchCopy);
        sentences.hold("Terms: IndexOutOfBounds: there is no such person", BoundaryFamilyTest::noSuchPerson);
        sentences.end();
    }

    private static LinkedMarkers family(int founders, int children) {
        LinkedMarkers x = new LinkedMarkers();
        for (int f = 0; f < founders; f++) {
            x.founder();
        }
        for (int c = 0; c < children; c++) {
            x.child(0, founders - 1);
        }
        return x;
    }

    private static void nothingAtFirst(Check check) {
        LinkedMarkers x = new LinkedMarkers();
        int[] counts = {0, 0, 0, 0, 1, 0};
        for (int what = 0; what < counts.length; what++) {
            check.due("count(" + what + ")", x.count(what), counts[what]);
        }
        check.dueOutOfBounds("child(0, 0)", () -> x.child(0, 0));
        check.dueOutOfBounds("rate(0, 0)", () -> x.rate(0, 0));
        check.dueOutOfBounds("see(0, 0, 1, 1)", () -> x.see(0, 0, 1, 1));
        check.dueOutOfBounds("unsee(0, 0)", () -> x.unsee(0, 0));
        check.dueOutOfBounds("origin(0, 0, 0)", () -> x.origin(0, 0, 0));
        check.dueOutOfBounds("fit(0, 0)", () -> x.fit(0, 0));
        check.dueBadState("joint()", x::joint);
        check.dueBadState("odds(1)", () -> x.odds(1));
        check.dueOutOfBounds("would(0, 0)", () -> x.would(0, 0));
        check.dueOutOfBounds("best(0)", () -> x.best(0));
        check.dueOutOfBounds("turned(0, 0)", () -> x.turned(0, 0));
        check.dueOutOfBounds("shared(0, 0, 0)", () -> x.shared(0, 0, 0));
        check.dueOutOfBounds("likely(0)", () -> x.likely(0));
    }

    private static void emptyPageAtFirst(Check check) {
        LinkedMarkers x = new LinkedMarkers();
        check.due("length()", x.length(), 0);
        check.due("charAt(0)", x.charAt(0), ' ');
        check.due("charAt(-1)", x.charAt(-1), ' ');
        check.due("charAt(1)", x.charAt(1), ' ');
    }

    private static void numbersOfPersons(Check check) {
        LinkedMarkers x = new LinkedMarkers();
        check.due("the first person", x.founder(), 0);
        check.due("the second", x.child(0, 0), 1);
        check.due("the third", x.founder(), 2);
        check.due("the fourth", x.child(2, 1), 3);
        check.due("the fifth", x.child(3, 3), 4);
        check.due("the last", x.founder(), 5);
        check.due("count(0)", x.count(0), 6);
    }

    /** Children do not count as founders, however many there are. */
    private static void threeFoundersWithChildren(Check check) {
        for (int children = 0; children <= 3; children++) {
            LinkedMarkers x = family(2, children);
            check.due("the third founder behind " + children + " children", x.founder(), 2 + children);
            check.dueBadState("the fourth behind " + children + " children", x::founder);
            check.due("count(1)", x.count(1), 3);
        }
    }

    private static void fourthFounder(Check check) {
        LinkedMarkers x = family(3, 0);
        check.dueBadState("the fourth founder()", x::founder);
        check.dueBadState("founder() again", x::founder);
        check.due("count(0)", x.count(0), 3);
        check.due("count(1)", x.count(1), 3);
        check.due("the next number goes to a child", x.child(0, 2), 3);
        check.dueBadState("founder() behind a child", x::founder);
    }

    /** One sighting, of any person at any marker, is enough. */
    private static void founderWhileSeen(Check check) {
        for (int person = 0; person < 5; person++) {
            for (int marker = 0; marker < 4; marker++) {
                LinkedMarkers x = family(2, 3);
                Families.markers(x, 4);
                x.see(person, marker, 1, 1);
                check.dueBadState("founder() with " + person + " seen at " + marker, x::founder);
                check.due("count(1)", x.count(1), 2);
                x.unsee(person, marker);
                check.due("founder() with nobody seen any more", x.founder(), 5);
            }
        }
    }

    private static void threeChildrenOfOne(Check check) {
        LinkedMarkers x = family(1, 0);
        check.due("count(2)", x.count(2), 0);
        for (int c = 1; c <= 3; c++) {
            check.due("child(0, 0)", x.child(0, 0), c);
            check.due("count(2)", x.count(2), c);
        }
        check.dueBadState("child(0, 0), a fourth", () -> x.child(0, 0));
        check.due("a founder behind them", x.founder(), 4);
        check.dueBadState("child(4, 4), a fourth", () -> x.child(4, 4));
        check.due("count(2)", x.count(2), 3);
    }

    /** The number that the child itself would have is not before it. */
    private static void parentsAreBefore(Check check) {
        LinkedMarkers x = family(1, 0);
        for (int own = 1; own <= 3; own++) {
            int number = own;
            check.dueOutOfBounds("its own father", () -> x.child(number, 0));
            check.dueOutOfBounds("its own mother", () -> x.child(0, number));
            check.due("the child of the one before", x.child(number - 1, number - 1), number);
        }
        check.due("from the first to the last, all bits 0", x.origin(3, 0, 0), 0);
        check.due("from the first to the last, all bits 1", x.origin(3, 1, 63), 1);
        check.due("by child 3's bit 4, child 2's bit 3, child 1's bit 1", x.origin(3, 0, 26), 1);
        check.due("all of these but child 1's bit 1", x.origin(3, 0, 24), 0);
    }

    /** The father may be told later than the mother. */
    private static void fatherThenMother(Check check) {
        LinkedMarkers x = family(3, 0);
        x.child(2, 0);
        check.due("origin(3, 0, 0)", x.origin(3, 0, 0), 4);
        check.due("origin(3, 0, 1)", x.origin(3, 0, 1), 5);
        check.due("origin(3, 1, 1)", x.origin(3, 1, 1), 0);
        check.due("origin(3, 1, 2)", x.origin(3, 1, 2), 1);
    }

    private static void bothTheSame(Check check) {
        LinkedMarkers x = family(2, 0);
        check.due("child(1, 1)", x.child(1, 1), 2);
        for (int way = 0; way < 4; way++) {
            check.due("copy 0, way " + way, x.origin(2, 0, way), 2 + way % 2);
            check.due("copy 1, way " + way, x.origin(2, 1, way), 2 + way / 2);
        }
    }

    private static void noSuchParent(Check check) {
        LinkedMarkers x = family(2, 0);
        int[] nobody = {-1, 2, 3, 6, MIN, MAX};
        for (int person : nobody) {
            check.dueOutOfBounds("child(" + person + ", 0)", () -> x.child(person, 0));
            check.dueOutOfBounds("child(1, " + person + ")", () -> x.child(1, person));
            check.dueOutOfBounds("child(" + person + ", " + person + ")", () -> x.child(person, person));
        }
        check.due("count(0)", x.count(0), 2);
        check.due("child(1, 0), the last and the first", x.child(1, 0), 2);
    }

    private static void fourthChild(Check check) {
        LinkedMarkers x = family(3, 3);
        check.dueBadState("child(0, 1)", () -> x.child(0, 1));
        check.dueBadState("child(5, 5)", () -> x.child(5, 5));
        check.due("count(0)", x.count(0), 6);
        check.due("count(2)", x.count(2), 3);
        check.due("count(4)", x.count(4), 64);
    }

    private static void childWhileSeen(Check check) {
        for (int person = 0; person < 5; person++) {
            for (int marker = 0; marker < 4; marker++) {
                LinkedMarkers x = family(3, 2);
                Families.markers(x, 4);
                x.see(person, marker, 1, 1);
                check.dueBadState("child(0, 1) with " + person + " seen at " + marker, () -> x.child(0, 1));
                check.due("count(2)", x.count(2), 2);
                x.unsee(person, marker);
                check.due("child(0, 1) with nobody seen any more", x.child(0, 1), 5);
            }
        }
    }

    private static void anotherWhat(Check check) {
        LinkedMarkers x = Families.largest();
        int[] others = {-1, -2, 6, 7, 256, MIN, MAX};
        for (int what : others) {
            check.due("count(" + what + ")", x.count(what), -1);
            check.due("count(" + what + ") of a new object", new LinkedMarkers().count(what), -1);
        }
        int[] counts = {6, 3, 3, 4, 64, 150};
        for (int what = 0; what < counts.length; what++) {
            check.due("count(" + what + ")", x.count(what), counts[what]);
        }
    }

    private static void fromNoneToAll(Check check) {
        for (int founders = 1; founders <= 3; founders++) {
            for (int children = 0; children <= 3; children++) {
                LinkedMarkers x = family(founders, children);
                Families.markers(x, children + 1);
                check.due("count(0)", x.count(0), founders + children);
                check.due("count(1)", x.count(1), founders);
                check.due("count(2)", x.count(2), children);
                check.due("count(3)", x.count(3), children + 1);
            }
        }
    }

    private static void howManyWays(Check check) {
        int[] ways = {1, 4, 16, 64};
        for (int children = 0; children <= 3; children++) {
            check.due("count(4)", family(1, children).count(4), ways[children]);
        }
    }

    /** Without a marker there is no gap, not one less than none. */
    private static void leastAndGreatestE(Check check) {
        check.due("E of nothing", family(0, 0).count(5), 0);
        check.due("E of founders alone", family(3, 0).count(5), 0);
        check.due("E of children without a marker", family(1, 3).count(5), 6);
        int[] ofAll = {6, 24, 66, 108, 150};
        LinkedMarkers x = family(3, 3);
        LinkedMarkers nobody = new LinkedMarkers();
        for (int markers = 0; markers <= 4; markers++) {
            check.due("E with " + markers + " markers", x.count(5), ofAll[markers]);
            check.due("E of nobody with " + markers + " markers", nobody.count(5), 0);
            if (markers < 4) {
                x.marker(8, 0, 0);
                nobody.marker(8, 0, 0);
            }
        }
    }

    private static void firstAndLastWay(Check check) {
        int[] ways = {1, 4, 16, 64};
        for (int children = 0; children <= 3; children++) {
            LinkedMarkers x = family(1, children);
            int last = ways[children] - 1;
            int person = children;
            int copyOfLast = children == 0 ? 0 : 1;
            check.due("origin(" + person + ", 0, 0)", x.origin(person, 0, 0), 0);
            check.due("origin(" + person + ", 0, " + last + ")", x.origin(person, 0, last), copyOfLast);
            check.dueOutOfBounds("way " + (last + 1), () -> x.origin(person, 0, last + 1));
            check.dueOutOfBounds("way -1", () -> x.origin(person, 0, -1));
        }
    }

    /** Bit 2 * c is that of copy 0 of child c, bit 2 * c + 1 that of its copy 1: one of six set at a time. */
    private static void lowestAndHighestBit(Check check) {
        LinkedMarkers x = family(2, 3);
        for (int bit = 0; bit < 6; bit++) {
            for (int copies = 0; copies < 6; copies++) {
                int founder = copies % 2;
                int want = 2 * founder + (copies == bit ? 1 : 0);
                check.due("child " + copies / 2 + "'s copy " + copies % 2 + " with bit " + bit,
                        x.origin(2 + copies / 2, copies % 2, 1 << bit), want);
            }
        }
    }

    private static void founderBehindChildren(Check check) {
        LinkedMarkers x = family(1, 3);
        check.due("the second founder", x.founder(), 4);
        check.due("the third founder", x.founder(), 5);
        int[] persons = {0, 4, 5};
        for (int number = 0; number < 3; number++) {
            for (int copy = 0; copy < 2; copy++) {
                int want = 2 * number + copy;
                check.due("a founder's copy, way 0", x.origin(persons[number], copy, 0), want);
                check.due("a founder's copy, way 63", x.origin(persons[number], copy, 63), want);
            }
        }
        for (int child = 1; child <= 3; child++) {
            check.due("child " + child + "'s copy 1, way 63", x.origin(child, 1, 63), 1);
        }
    }

    private static void noSuchWay(Check check) {
        LinkedMarkers x = family(3, 3);
        int[] wrong = {-1, 64, 65, 128, MIN, MAX};
        for (int way : wrong) {
            check.dueOutOfBounds("origin(0, 0, " + way + ")", () -> x.origin(0, 0, way));
            check.dueOutOfBounds("origin(5, 1, " + way + ")", () -> x.origin(5, 1, way));
        }
        check.due("origin(5, 1, 63)", x.origin(5, 1, 63), 5);
    }

    private static void noSuchCopy(Check check) {
        LinkedMarkers x = family(1, 1);
        int[] wrong = {-1, 2, 3, MIN, MAX};
        for (int copy : wrong) {
            check.dueOutOfBounds("a founder's copy " + copy, () -> x.origin(0, copy, 0));
            check.dueOutOfBounds("a child's copy " + copy, () -> x.origin(1, copy, 0));
        }
        check.due("origin(1, 0, 1)", x.origin(1, 0, 1), 1);
        check.due("origin(1, 1, 1)", x.origin(1, 1, 1), 0);
    }

    private static void noSuchPerson(Check check) {
        LinkedMarkers x = family(2, 1);
        Families.markers(x, 1);
        int[] wrong = {-1, 3, 4, 5, 6, MIN, MAX};
        for (int person : wrong) {
            check.dueOutOfBounds("origin(" + person + ", 0, 0)", () -> x.origin(person, 0, 0));
            check.dueOutOfBounds("see(" + person + ", 0, 1, 1)", () -> x.see(person, 0, 1, 1));
            check.dueOutOfBounds("unsee(" + person + ", 0)", () -> x.unsee(person, 0));
            check.dueOutOfBounds("shared(0, " + person + ", 0)", () -> x.shared(0, person, 0));
            check.dueOutOfBounds("shared(0, 2, " + person + ")", () -> x.shared(0, 2, person));
        }
        check.due("origin(2, 1, 0) of the last person", x.origin(2, 1, 0), 2);
    }
}
