/** The boundary cases that hold for all calls: how often, what a throw leaves alone, which throw wins. */
public final class BoundaryUseTest {
    private static final int MIN = Integer.MIN_VALUE;
    private static final int MAX = Integer.MAX_VALUE;
    private static final int MOST_CALLS = 512;
    private static final int STATES = 5;

    /** A call on a given object. */
    private interface Call {
        void on(LinkedMarkers x);
    }

    // No state has a person 6, a marker 4, a gap 3, a way 64 or a bit 6.
    private static final Call[] ALWAYS_REFUSED = {
        x -> x.child(-1, 0), x -> x.child(0, -1), x -> x.child(6, 0), x -> x.child(0, 6),
        x -> x.marker(-1, 9, 0), x -> x.marker(3, 3, 3), x -> x.marker(0, 0, 7), x -> x.marker(MAX, MAX, 10),
        x -> x.rate(-1, 1), x -> x.rate(3, 1), x -> x.rate(0, -1), x -> x.rate(0, 9), x -> x.rate(2, 9),
        x -> x.see(-1, 0, 3, 3), x -> x.see(6, 0, 3, 3), x -> x.see(0, -1, 3, 3), x -> x.see(0, 4, 3, 3),
        x -> x.see(0, 0, 0, 3), x -> x.see(0, 0, 3, 0), x -> x.see(0, 0, 4, 3), x -> x.see(0, 0, 3, 4),
        x -> x.unsee(-1, 0), x -> x.unsee(6, 0), x -> x.unsee(0, -1), x -> x.unsee(0, 4),
        x -> x.origin(6, 0, 0), x -> x.origin(0, 2, 0), x -> x.origin(0, 0, 64),
        x -> x.fit(4, 0), x -> x.fit(0, 64), x -> x.odds(0), x -> x.odds(1001),
        x -> x.would(3, 1), x -> x.would(-1, 1), x -> x.would(0, 9), x -> x.would(0, -1),
        x -> x.best(3), x -> x.best(-1), x -> x.turned(4, 0), x -> x.turned(0, 6),
        x -> x.shared(4, 0, 0), x -> x.shared(0, 6, 0), x -> x.shared(0, 0, -1), x -> x.likely(4)
    };

    public static void main(String[] args) {
        Sentences sentences = new Sentences();
        String calls = "What it is: An object is used for at most 512 calls after it has been made";
        sentences.hold(calls + " (all refused but the last)", BoundaryUseTest::lastCallAfterRefusals);
        sentences.hold(calls + " (of all kinds)", BoundaryUseTest::callsOfAllKinds);
        sentences.hold(calls + " (the dearest)", BoundaryUseTest::dearestCalls);
        sentences.hold(calls + " (changes there and back)", BoundaryUseTest::changesThereAndBack);
        String stays = "Terms: A call that throws changes nothing";
        sentences.hold(stays + " (wrong arguments)", BoundaryUseTest::throwsChangeNothing);
        sentences.hold(stays + " (there is no room)", BoundaryUseTest::fullStaysAsItIs);
        sentences.hold(stays + " (there is no marker)", BoundaryUseTest::emptyStaysAsItIs);
        String wins = "Terms: where it lists more than one exception, the first one wins";
        sentences.hold(wins + " (child)", BoundaryUseTest::childThrowsFirst);
        sentences.hold(wins + " (marker)", BoundaryUseTest::markerThrowsFirst);
        sentences.hold(wins + " (rate)", BoundaryUseTest::rateThrowsFirst);
        sentences.hold(wins + " (see)", BoundaryUseTest::seeThrowsFirst);
        sentences.hold(wins + " (odds)", BoundaryUseTest::oddsThrowsFirst);
        sentences.hold(wins + " (would)", BoundaryUseTest::wouldThrowsFirst);
        sentences.end();
    }

    /** Nothing; persons; a founder seen; the most of all, seen everywhere; the most of all, nobody seen. */
    private static LinkedMarkers state(int number) {
        LinkedMarkers x = number >= 3 ? Families.largest() : new LinkedMarkers();
        if (number == 1) {
            x.founder();
            x.child(0, 0);
        } else if (number == 2) {
            x.founder();
            x.marker(1, 2, 5);
            x.joint();
            x.see(0, 0, 1, 2);
        } else if (number == 3) {
            seeAll(x);
        } else if (number == 4) {
            unseeAll(x);
        }
        return x;
    }

    /** After joint(), so that the page does not tell what JOINT is by now. */
    private static void seeAll(LinkedMarkers x) {
        x.joint();
        x.rate(0, 1);
        x.rate(2, 7);
        for (int step = 0; step < 24; step++) {
            x.see(step % 6, step / 6, 1, 1);
        }
    }

    private static void unseeAll(LinkedMarkers x) {
        x.joint();
        for (int step = 0; step < 24; step++) {
            x.unsee(step % 6, step / 6);
        }
    }

    private static void lastCallAfterRefusals(Check check) {
        LinkedMarkers x = new LinkedMarkers();
        for (int call = 1; call < MOST_CALLS; call++) {
            check.dueBadState("joint(), call " + call, x::joint);
        }
        check.due("founder(), call " + MOST_CALLS, x.founder(), 0);
    }

    private static void callsOfAllKinds(Check check) {
        Dice dice = new Dice(MOST_CALLS);
        Pair pair = new Pair(check);
        for (int call = 1; call <= MOST_CALLS; call++) {
            RandomRunsTest.askAny(pair, dice);
        }
    }

    private static void dearestCalls(Check check) {
        LinkedMarkers x = alternating();
        int made = 24;
        int[] want = {alternating().best(0), alternating().best(1), alternating().best(2)};
        for (int call = made + 1; call <= MOST_CALLS; call++) {
            int gap = call % 3;
            check.due("best(" + gap + "), call " + call, x.best(gap), want[gap]);
        }
    }

    /** In each gap one bit at least changes. */
    private static LinkedMarkers alternating() {
        LinkedMarkers x = Families.selfed(4);
        for (int m = 0; m < 4; m++) {
            Families.seeSelfed(x, m, 1, 1 + m % 2);
        }
        return x;
    }

    /** Each round ends where it began, so the last call answers as that of a new object does. */
    private static void changesThereAndBack(Check check) {
        LinkedMarkers x = oneChange();
        int made = 16;
        for (int round = 0; made + 13 < MOST_CALLS; round++) {
            int k = round % 9;
            x.see(round % 5, round % 2, 1 + round % 3, 1 + k % 3);
            x.rate(0, k);
            x.odds(1 + round);
            Families.seeGrandchild(x, 0, 1);
            x.unsee(3, round % 2);
            Families.seeGrandchild(x, 1, 2);
            x.rate(0, 3);
            made += 13;
        }
        for (int call = made + 1; call < MOST_CALLS; call++) {
            check.due("count(5), call " + call, x.count(5), 56);
        }
        check.due("odds(1000), the last call", x.odds(1000), 375);
    }

    private static LinkedMarkers oneChange() {
        LinkedMarkers x = Families.grandchild(2);
        Families.seeGrandchild(x, 0, 1);
        Families.seeGrandchild(x, 1, 2);
        x.rate(0, 3);
        return x;
    }

    private static void throwsChangeNothing(Check check) {
        for (int number = 0; number < STATES; number++) {
            String want = Snapshot.of(state(number));
            for (int c = 0; c < ALWAYS_REFUSED.length; c++) {
                dueRefused(check, number, ALWAYS_REFUSED[c], want);
            }
        }
    }

    private static void fullStaysAsItIs(Check check) {
        for (int number = 3; number <= 4; number++) {
            String want = Snapshot.of(state(number));
            dueRefused(check, number, LinkedMarkers::founder, want);
            dueRefused(check, number, x -> x.child(0, 1), want);
            dueRefused(check, number, x -> x.marker(1, 2, 5), want);
        }
        String wantOfSeen = Snapshot.of(state(2));
        dueRefused(check, 2, LinkedMarkers::founder, wantOfSeen);
        dueRefused(check, 2, x -> x.child(0, 0), wantOfSeen);
    }

    private static void emptyStaysAsItIs(Check check) {
        for (int number = 0; number <= 1; number++) {
            String want = Snapshot.of(state(number));
            dueRefused(check, number, LinkedMarkers::joint, want);
            dueRefused(check, number, x -> x.odds(1), want);
        }
    }

    private static void dueRefused(Check check, int number, Call call, String want) {
        LinkedMarkers x = state(number);
        String thrown = Check.thrownBy(() -> call.on(x));
        check.dueTrue("the call throws in state " + number, !thrown.equals("nothing"));
        check.due("all answers in state " + number, Snapshot.of(x), want);
    }

    /** No such parent before: there are 3, and: somebody is seen. */
    private static void childThrowsFirst(Check check) {
        check.dueOutOfBounds("the fourth child of nobody", () -> state(4).child(0, 6));
        check.dueOutOfBounds("the fourth child of nobody", () -> state(4).child(-1, 0));
        check.dueBadState("the fourth child", () -> state(4).child(0, 5));
        check.dueOutOfBounds("child(1, 0) with somebody seen", () -> state(2).child(1, 0));
        check.dueOutOfBounds("child(0, 1) with somebody seen", () -> state(2).child(0, 1));
        check.dueBadState("child(0, 0) with somebody seen", () -> state(2).child(0, 0));
    }

    /** No weights before: there are 4. */
    private static void markerThrowsFirst(Check check) {
        check.dueBadArgument("the fifth marker of 7", () -> state(3).marker(3, 3, 1));
        check.dueBadArgument("the fifth marker of 9", () -> state(3).marker(3, 3, 3));
        check.dueBadArgument("the fifth marker below 0", () -> state(3).marker(-1, 1, 8));
        check.dueBadState("the fifth marker", () -> state(3).marker(3, 3, 2));
    }

    /** No such gap before: no such rate. */
    private static void rateThrowsFirst(Check check) {
        check.dueOutOfBounds("rate(0, 9) of nothing", () -> state(0).rate(0, 9));
        check.dueOutOfBounds("rate(0, -1) with one marker", () -> state(2).rate(0, -1));
        check.dueOutOfBounds("rate(3, 9)", () -> state(3).rate(3, 9));
        check.dueOutOfBounds("rate(-1, -1)", () -> state(3).rate(-1, -1));
        check.dueBadArgument("rate(2, 9)", () -> state(3).rate(2, 9));
    }

    /** No such person or marker before: no such letter. */
    private static void seeThrowsFirst(Check check) {
        check.dueOutOfBounds("see(0, 0, 0, 0) of nothing", () -> state(0).see(0, 0, 0, 0));
        check.dueOutOfBounds("see(6, 0, 0, 1)", () -> state(3).see(6, 0, 0, 1));
        check.dueOutOfBounds("see(0, 4, 1, 4)", () -> state(3).see(0, 4, 1, 4));
        check.dueOutOfBounds("see(MIN, MIN, MIN, MIN)", () -> state(3).see(MIN, MIN, MIN, MIN));
        check.dueBadArgument("see(5, 3, 0, 1)", () -> state(3).see(5, 3, 0, 1));
    }

    /** No such n before: there is no marker. */
    private static void oddsThrowsFirst(Check check) {
        check.dueBadArgument("odds(0) of nothing", () -> state(0).odds(0));
        check.dueBadArgument("odds(1001) of persons", () -> state(1).odds(1001));
        check.dueBadState("odds(1) of nothing", () -> state(0).odds(1));
        check.dueBadState("odds(1000) of persons", () -> state(1).odds(1000));
    }

    /** No such gap before: no such rate. */
    private static void wouldThrowsFirst(Check check) {
        check.dueOutOfBounds("would(0, 9) of nothing", () -> state(0).would(0, 9));
        check.dueOutOfBounds("would(0, -1) with one marker", () -> state(2).would(0, -1));
        check.dueOutOfBounds("would(3, 9)", () -> state(3).would(3, 9));
        check.dueOutOfBounds("would(-1, -1)", () -> state(3).would(-1, -1));
        check.dueBadArgument("would(2, 9)", () -> state(3).would(2, 9));
    }
}
