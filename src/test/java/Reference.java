import java.math.BigDecimal;
import java.math.BigInteger;
import java.util.ArrayList;
import java.util.List;

/**
 * The document once more, as plainly as can be and without regard to time or room: probabilities as
 * exact decimal fractions, straight from THE MODEL, all letters and all pairs of ways tried out.
 */
public final class Reference {
    private static final BigDecimal EIGHTH = new BigDecimal("0.125");
    private static final BigDecimal SIXTEENTH = new BigDecimal("0.0625");
    private static final BigDecimal QUARTER = new BigDecimal("0.25");
    private static final int FREE_RATE = 8;

    private final List<int[]> parents = new ArrayList<>();
    private final List<int[]> weights = new ArrayList<>();
    private final List<Integer> rates = new ArrayList<>();
    private final int[][][] seen = new int[6][4][];
    private String page = "";

    public int founder() {
        if (founders() == 3 || somebodyIsSeen()) {
            throw new IllegalStateException();
        }
        parents.add(null);
        return parents.size() - 1;
    }

    public int child(int father, int mother) {
        needIndex(father, parents.size());
        needIndex(mother, parents.size());
        if (children() == 3 || somebodyIsSeen()) {
            throw new IllegalStateException();
        }
        parents.add(new int[] {father, mother});
        return parents.size() - 1;
    }

    public int marker(int one, int two, int three) {
        if (one < 0 || two < 0 || three < 0 || (long) one + two + three != 8) {
            throw new IllegalArgumentException();
        }
        if (weights.size() == 4) {
            throw new IllegalStateException();
        }
        weights.add(new int[] {one, two, three});
        if (weights.size() > 1) {
            rates.add(FREE_RATE);
        }
        return weights.size() - 1;
    }

    public int rate(int gap, int k) {
        needIndex(gap, rates.size());
        needRate(k);
        return rates.set(gap, k);
    }

    public void see(int person, int marker, int one, int other) {
        needIndex(person, parents.size());
        needIndex(marker, weights.size());
        if (one < 1 || one > 3 || other < 1 || other > 3) {
            throw new IllegalArgumentException();
        }
        seen[person][marker] = new int[] {one, other};
    }

    public boolean unsee(int person, int marker) {
        needIndex(person, parents.size());
        needIndex(marker, weights.size());
        boolean was = seen[person][marker] != null;
        seen[person][marker] = null;
        return was;
    }

    public int count(int what) {
        int[] counts = {parents.size(), founders(), children(), weights.size(), ways(), exponent()};
        return what >= 0 && what < counts.length ? counts[what] : -1;
    }

    public int origin(int person, int copy, int way) {
        needIndex(person, parents.size());
        needIndex(copy, 2);
        needIndex(way, ways());
        return comeDown(founderCopies(), way)[person][copy];
    }

    public int fit(int marker, int way) {
        needIndex(marker, weights.size());
        needIndex(way, ways());
        return fitting(marker, way).multiply(BigDecimal.valueOf(8).pow(2 * founders())).intValueExact();
    }

    public int joint() {
        needMarker();
        page = scaled(total(rates)).toString();
        return page.length();
    }

    public int odds(int n) {
        if (n < 1 || n > 1000) {
            throw new IllegalArgumentException();
        }
        needMarker();
        List<Integer> free = new ArrayList<>();
        for (int gap = 0; gap < rates.size(); gap++) {
            free.add(FREE_RATE);
        }
        return quotient(total(rates), n, total(free));
    }

    public int would(int gap, int k) {
        needIndex(gap, rates.size());
        needRate(k);
        return total(ratesWith(gap, k)).compareTo(total(rates));
    }

    public int best(int gap) {
        needIndex(gap, rates.size());
        int best = 8;
        for (int k = 7; k >= 0; k--) {
            if (total(ratesWith(gap, k)).compareTo(total(ratesWith(gap, best))) >= 0) {
                best = k;
            }
        }
        return best;
    }

    public int turned(int marker, int bit) {
        needIndex(marker, weights.size());
        needIndex(bit, 2 * children());
        BigDecimal part = BigDecimal.ZERO;
        BigDecimal[] byWay = probabilities(marker, rates);
        for (int way = 0; way < ways(); way++) {
            if ((way >> bit) % 2 == 1) {
                part = part.add(byWay[way]);
            }
        }
        return quotient(part, 1000, total(rates));
    }

    public int shared(int marker, int one, int other) {
        needIndex(marker, weights.size());
        needIndex(one, parents.size());
        needIndex(other, parents.size());
        BigDecimal part = BigDecimal.ZERO;
        BigDecimal[] byWay = probabilities(marker, rates);
        for (int way = 0; way < ways(); way++) {
            int[][] copies = comeDown(founderCopies(), way);
            boolean same = false;
            for (int a : copies[one]) {
                for (int b : copies[other]) {
                    same |= a == b;
                }
            }
            if (same) {
                part = part.add(byWay[way]);
            }
        }
        return quotient(part, 1000, total(rates));
    }

    public int likely(int marker) {
        needIndex(marker, weights.size());
        if (total(rates).signum() == 0) {
            return -1;
        }
        BigDecimal[] byWay = probabilities(marker, rates);
        int likely = ways() - 1;
        for (int way = ways() - 2; way >= 0; way--) {
            if (byWay[way].compareTo(byWay[likely]) >= 0) {
                likely = way;
            }
        }
        return likely;
    }

    public int length() {
        return page.length();
    }

    public char charAt(int p) {
        return p >= 0 && p < page.length() ? page.charAt(p) : ' ';
    }

    /** JOINT by walking every path of ways through the markers. */
    String jointByPaths() {
        BigDecimal sum = BigDecimal.ZERO;
        for (int way = 0; way < ways(); way++) {
            sum = sum.add(QUARTER.pow(children()).multiply(pathsFrom(0, way)));
        }
        return scaled(sum).toString();
    }

    private BigDecimal pathsFrom(int marker, int way) {
        BigDecimal fitting = fitting(marker, way);
        if (marker == weights.size() - 1) {
            return fitting;
        }
        BigDecimal sum = BigDecimal.ZERO;
        for (int next = 0; next < ways(); next++) {
            sum = sum.add(changing(way, next, rates.get(marker)).multiply(pathsFrom(marker + 1, next)));
        }
        return fitting.multiply(sum);
    }

    private BigDecimal total(List<Integer> gapRates) {
        BigDecimal sum = BigDecimal.ZERO;
        for (BigDecimal part : probabilities(0, gapRates)) {
            sum = sum.add(part);
        }
        return sum;
    }

    /** How probable the data are together with each way at the marker. */
    private BigDecimal[] probabilities(int marker, List<Integer> gapRates) {
        int ways = ways();
        BigDecimal[] left = new BigDecimal[ways];
        java.util.Arrays.fill(left, QUARTER.pow(children()));
        for (int m = 0; m < marker; m++) {
            left = cross(left, m, gapRates.get(m));
        }
        BigDecimal[] right = new BigDecimal[ways];
        java.util.Arrays.fill(right, BigDecimal.ONE);
        for (int m = weights.size() - 1; m > marker; m--) {
            right = cross(right, m, gapRates.get(m - 1));
        }
        for (int way = 0; way < ways; way++) {
            left[way] = left[way].multiply(fitting(marker, way)).multiply(right[way]);
        }
        return left;
    }

    private BigDecimal[] cross(BigDecimal[] from, int marker, int k) {
        int ways = ways();
        BigDecimal[] to = new BigDecimal[ways];
        java.util.Arrays.fill(to, BigDecimal.ZERO);
        for (int way = 0; way < ways; way++) {
            BigDecimal here = from[way].multiply(fitting(marker, way));
            for (int next = 0; next < ways && here.signum() != 0; next++) {
                to[next] = to[next].add(here.multiply(changing(way, next, k)));
            }
        }
        return to;
    }

    private BigDecimal changing(int way, int next, int k) {
        int changed = Integer.bitCount(way ^ next);
        BigDecimal change = SIXTEENTH.multiply(BigDecimal.valueOf(k));
        BigDecimal stay = BigDecimal.ONE.subtract(change);
        return change.pow(changed).multiply(stay.pow(2 * children() - changed));
    }

    /** How probable it is that what is seen at the marker is so, over all letters of all founders. */
    private BigDecimal fitting(int marker, int way) {
        BigDecimal sum = BigDecimal.ZERO;
        int copies = 2 * founders();
        int all = (int) Math.pow(3, copies);
        for (int number = 0; number < all; number++) {
            int[] letters = new int[copies];
            BigDecimal probability = BigDecimal.ONE;
            int rest = number;
            for (int c = 0; c < copies; c++) {
                letters[c] = rest % 3 + 1;
                rest /= 3;
                int weight = weights.get(marker)[letters[c] - 1];
                probability = probability.multiply(EIGHTH).multiply(BigDecimal.valueOf(weight));
            }
            if (probability.signum() != 0 && isAsSeen(marker, comeDown(letters, way))) {
                sum = sum.add(probability);
            }
        }
        return sum;
    }

    private boolean isAsSeen(int marker, int[][] letters) {
        for (int person = 0; person < parents.size(); person++) {
            int[] pair = seen[person][marker];
            int[] has = letters[person];
            boolean so = pair == null
                    || pair[0] == has[0] && pair[1] == has[1]
                    || pair[0] == has[1] && pair[1] == has[0];
            if (!so) {
                return false;
            }
        }
        return true;
    }

    /** What stands on the founders' copies, brought down to all persons' copies. */
    private int[][] comeDown(int[] onFounders, int way) {
        int[][] has = new int[parents.size()][2];
        int founder = 0;
        int child = 0;
        for (int person = 0; person < parents.size(); person++) {
            int[] two = parents.get(person);
            if (two == null) {
                has[person][0] = onFounders[2 * founder];
                has[person][1] = onFounders[2 * founder + 1];
                founder++;
            } else {
                has[person][0] = has[two[0]][(way >> (2 * child)) & 1];
                has[person][1] = has[two[1]][(way >> (2 * child + 1)) & 1];
                child++;
            }
        }
        return has;
    }

    private int[] founderCopies() {
        int[] copies = new int[2 * founders()];
        for (int c = 0; c < copies.length; c++) {
            copies[c] = c;
        }
        return copies;
    }

    private int quotient(BigDecimal part, int times, BigDecimal whole) {
        if (whole.signum() == 0) {
            return -1;
        }
        return scaled(part).multiply(BigInteger.valueOf(times)).divide(scaled(whole)).intValueExact();
    }

    private BigInteger scaled(BigDecimal probability) {
        return probability.multiply(BigDecimal.valueOf(2).pow(exponent())).toBigIntegerExact();
    }

    private List<Integer> ratesWith(int gap, int k) {
        List<Integer> changed = new ArrayList<>(rates);
        changed.set(gap, k);
        return changed;
    }

    private int founders() {
        int founders = 0;
        for (int[] two : parents) {
            founders += two == null ? 1 : 0;
        }
        return founders;
    }

    private int children() {
        return parents.size() - founders();
    }

    private int ways() {
        return 1 << (2 * children());
    }

    private int exponent() {
        return 2 * children() + 6 * founders() * weights.size() + 8 * children() * rates.size();
    }

    private boolean somebodyIsSeen() {
        for (int[][] ofPerson : seen) {
            for (int[] pair : ofPerson) {
                if (pair != null) {
                    return true;
                }
            }
        }
        return false;
    }

    private void needMarker() {
        if (weights.isEmpty()) {
            throw new IllegalStateException();
        }
    }

    private static void needIndex(int index, int size) {
        if (index < 0 || index >= size) {
            throw new IndexOutOfBoundsException();
        }
    }

    private static void needRate(int k) {
        if (k < 0 || k > 8) {
            throw new IllegalArgumentException();
        }
    }
}
