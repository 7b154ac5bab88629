/**
 * Promises 2 to 19: every call with every choice of arguments at the edges of what there is (the first, the
 * last, those just outside, the least and greatest int), in several states, against the reference.
 */
public final class EdgeArgumentsTest {
    private static final String[] METHODS = {
        "founder", "child", "marker", "rate", "see", "unsee", "count", "origin", "fit", "joint", "odds",
        "would", "best", "turned", "shared", "likely", "length", "charAt"
    };

    // Founders, children and markers of each state; the last two are seen at the last marker.
    private static final int[][] SIZES = {
        {0, 0, 0}, {0, 0, 1}, {1, 0, 0}, {1, 1, 1}, {2, 1, 2}, {3, 3, 4}, {1, 2, 3}, {3, 3, 4}
    };
    private static final int FIRST_SEEN = 6;

    private final Check check;
    private final int state;

    private EdgeArgumentsTest(Check check, int state) {
        this.check = check;
        this.state = state;
    }

    public static void main(String[] args) {
        Check check = new Check();
        for (int state = 0; state < SIZES.length; state++) {
            EdgeArgumentsTest test = new EdgeArgumentsTest(check, state);
            for (String method : METHODS) {
                test.askEdges(method);
            }
        }
        check.end();
    }

    private void askEdges(String method) {
        int[][] edges = edgesOf(method);
        int choices = 1;
        for (int[] ofOne : edges) {
            choices *= ofOne.length;
        }
        for (int choice = 0; choice < choices; choice++) {
            int[] arguments = new int[edges.length];
            int rest = choice;
            for (int a = 0; a < edges.length; a++) {
                arguments[a] = edges[a][rest % edges[a].length];
                rest /= edges[a].length;
            }
            Pair pair = pairInState();
            pair.ask(method, arguments);
            askWhatStands(pair);
        }
    }

    /** What the call may have changed, as far as it is cheap to ask. */
    private void askWhatStands(Pair pair) {
        for (int what = 0; what <= 5; what++) {
            pair.ask("count", what);
        }
        pair.ask("length");
        pair.ask("charAt", 0);
        int last = pair.reference.count(3) - 1;
        pair.ask("fit", last, pair.reference.count(4) - 1);
        pair.ask("rate", last - 1, 1);
        pair.ask("unsee", 0, last);
        pair.ask("founder");
    }

    private Pair pairInState() {
        int[] size = SIZES[state];
        Pair pair = new Pair(check);
        for (int f = 0; f < size[0]; f++) {
            pair.ask("founder");
        }
        for (int c = 0; c < size[1]; c++) {
            pair.ask("child", c, size[0] - 1);
        }
        for (int m = 0; m < size[2]; m++) {
            pair.ask("marker", m, 4, 4 - m);
        }
        for (int gap = 0; gap < size[2] - 1; gap++) {
            pair.ask("rate", gap, 3 * gap);
        }
        if (state >= FIRST_SEEN) {
            pair.ask("see", 0, size[2] - 1, 1, 2);
            pair.ask("see", 1, size[2] - 1, 2, 2);
        }
        return pair;
    }

    private int[][] edgesOf(String method) {
        int[] persons = upTo(SIZES[state][0] + SIZES[state][1] - 1);
        int[] markers = upTo(SIZES[state][2] - 1);
        int[] gaps = upTo(SIZES[state][2] - 2);
        int[] ways = upTo((1 << (2 * SIZES[state][1])) - 1);
        int[] bits = upTo(2 * SIZES[state][1] - 1);
        return switch (method) {
            case "child" -> new int[][] {persons, persons};
            case "marker" -> new int[][] {upTo(8), upTo(8), upTo(8)};
            case "rate", "would" -> new int[][] {gaps, upTo(8)};
            case "see" -> new int[][] {persons, markers, {0, 1, 3, 4}, {0, 1, 3, 4}};
            case "unsee" -> new int[][] {persons, markers};
            case "count" -> new int[][] {upTo(5)};
            case "origin" -> new int[][] {persons, upTo(1), ways};
            case "fit" -> new int[][] {markers, ways};
            case "odds" -> new int[][] {{Integer.MIN_VALUE, -1, 0, 1, 1000, 1001, Integer.MAX_VALUE}};
            case "best" -> new int[][] {gaps};
            case "turned" -> new int[][] {markers, bits};
            case "shared" -> new int[][] {markers, persons, persons};
            case "likely" -> new int[][] {markers};
            case "charAt" -> new int[][] {upTo(45)};
            default -> new int[0][];
        };
    }

    private static int[] upTo(int last) {
        return new int[] {Integer.MIN_VALUE, -1, 0, last, last + 1, Integer.MAX_VALUE};
    }
}
