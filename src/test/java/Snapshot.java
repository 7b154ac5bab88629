/** All that an object answers, in one text; asking changes the object, which is done with afterwards. */
final class Snapshot {
    private static final int WAYS_ASKED = 16;

    private final LinkedMarkers x;
    private final int persons;
    private final int markers;
    private final StringBuilder text = new StringBuilder();

    private Snapshot(LinkedMarkers x) {
        this.x = x;
        persons = x.count(0);
        markers = x.count(3);
    }

    /** Some 350 calls at most, so that what they answer is still promised. */
    static String of(LinkedMarkers x) {
        Snapshot snapshot = new Snapshot(x);
        snapshot.text.append("page ").append(Check.page(x));
        snapshot.askCounts();
        snapshot.askMarkers();
        snapshot.askGaps();
        snapshot.askJoint();
        snapshot.takeAway();
        return snapshot.text.toString();
    }

    private void askCounts() {
        for (int what = 0; what < 6; what++) {
            put("count", x.count(what));
        }
        for (int person = 0; person < persons; person++) {
            put("origin", x.origin(person, person % 2, x.count(4) - 1));
        }
    }

    private void askMarkers() {
        int ways = x.count(4);
        int step = Math.max(1, ways / WAYS_ASKED);
        for (int m = 0; m < markers; m++) {
            for (int way = step - 1; way < ways; way += step) {
                put("fit", x.fit(m, way));
            }
            for (int bit = 0; bit < 2 * x.count(2); bit++) {
                put("turned", x.turned(m, bit));
            }
            for (int person = 0; person < persons; person++) {
                put("shared", x.shared(m, person, persons - 1));
            }
            put("likely", x.likely(m));
        }
    }

    private void askGaps() {
        for (int gap = 0; gap < markers - 1; gap++) {
            put("would", x.would(gap, 0));
            put("would", x.would(gap, 4));
            put("best", x.best(gap));
        }
    }

    private void askJoint() {
        if (markers > 0) {
            put("odds", x.odds(1000));
            text.append(" joint ").append(Check.jointOf(x));
        }
    }

    private void takeAway() {
        for (int gap = 0; gap < markers - 1; gap++) {
            put("rate", x.rate(gap, 8));
        }
        for (int m = 0; m < markers; m++) {
            for (int person = 0; person < persons; person++) {
                put("unsee", x.unsee(person, m) ? 1 : 0);
            }
        }
        text.append(" founder ").append(Check.thrownBy(x::founder));
        text.append(" child ").append(Check.thrownBy(() -> x.child(0, 0)));
        text.append(" marker ").append(Check.thrownBy(() -> x.marker(8, 0, 0)));
    }

    private void put(String call, int answer) {
        text.append(' ').append(call).append(' ').append(answer);
    }
}
