/**
 * Families and markers along a chromosome: how probable the seen pairs of letters are, exactly,
 * summed over all ways in which pieces may have come down from parents to children.
 *
 * <p>All room is taken in the constructor: no call makes an object.
 */
public final class LinkedMarkers {
    public static final int NONE = -1;

    private static final int MOST_FOUNDERS = 3;
    private static final int MOST_CHILDREN = 3;
    private static final int MOST_PERSONS = MOST_FOUNDERS + MOST_CHILDREN;
    private static final int MOST_WAYS = 64;
    private static final int MOST_MARKERS = 4;
    private static final int MOST_GAPS = MOST_MARKERS - 1;
    private static final int LETTERS = 3;
    private static final int NO_LETTER = 0;
    private static final int WHOLE_WEIGHT = 8;
    private static final int WHOLE_RATE = 16;
    private static final int HIGHEST_RATE = 8;
    private static final int HIGHEST_N = 1000;

    private final Family family;
    private final Markers markers;
    private final Fits fits;
    private final Sums sums;
    private final char[] page;
    private int pageLength;

    public LinkedMarkers() {
        family = new Family();
        markers = new Markers();
        fits = new Fits(family, markers);
        sums = new Sums(family, markers, fits);
        page = new char[Amounts.DIGITS];
        pageLength = 0;
    }

    public int founder() throws IllegalStateException {
        if (family.founders == MOST_FOUNDERS || markers.sightings > 0) {
            throw new IllegalStateException();
        }
        int number = family.addFounder();
        fits.renewAll();
        return number;
    }

    public int child(int father, int mother) throws IndexOutOfBoundsException, IllegalStateException {
        if (!family.hasPerson(father) || !family.hasPerson(mother)) {
            throw new IndexOutOfBoundsException();
        }
        if (family.children == MOST_CHILDREN || markers.sightings > 0) {
            throw new IllegalStateException();
        }
        int number = family.addChild(father, mother);
        fits.renewAll();
        return number;
    }

    public int marker(int one, int two, int three) throws IllegalArgumentException, IllegalStateException {
        if (!areWeights(one, two, three)) {
            throw new IllegalArgumentException();
        }
        if (markers.size == MOST_MARKERS) {
            throw new IllegalStateException();
        }
        int number = markers.add(one, two, three);
        fits.renew(number);
        return number;
    }

    public int rate(int gap, int k) throws IndexOutOfBoundsException, IllegalArgumentException {
        if (!markers.hasGap(gap)) {
            throw new IndexOutOfBoundsException();
        }
        if (!isRate(k)) {
            throw new IllegalArgumentException();
        }
        int old = markers.rates[gap];
        markers.rates[gap] = k;
        return old;
    }

    public void see(int person, int marker, int one, int other)
            throws IndexOutOfBoundsException, IllegalArgumentException {
        if (!family.hasPerson(person) || !markers.hasMarker(marker)) {
            throw new IndexOutOfBoundsException();
        }
        if (!isLetter(one) || !isLetter(other)) {
            throw new IllegalArgumentException();
        }
        markers.putSighting(person, marker, one, other);
        fits.renew(marker);
    }

    public boolean unsee(int person, int marker) throws IndexOutOfBoundsException {
        if (!family.hasPerson(person) || !markers.hasMarker(marker)) {
            throw new IndexOutOfBoundsException();
        }
        if (!markers.isSeen(person, marker)) {
            return false;
        }
        markers.dropSighting(person, marker);
        fits.renew(marker);
        return true;
    }

    public int count(int what) {
        switch (what) {
            case 0:
                return family.persons();
            case 1:
                return family.founders;
            case 2:
                return family.children;
            case 3:
                return markers.size;
            case 4:
                return family.ways();
            case 5:
                return exponent();
            default:
                return NONE;
        }
    }

    public int origin(int person, int copy, int way) throws IndexOutOfBoundsException {
        if (!family.hasPerson(person) || copy < 0 || copy > 1 || !family.hasWay(way)) {
            throw new IndexOutOfBoundsException();
        }
        return family.sourceOf(person, copy, way);
    }

    public int fit(int marker, int way) throws IndexOutOfBoundsException {
        if (!markers.hasMarker(marker) || !family.hasWay(way)) {
            throw new IndexOutOfBoundsException();
        }
        return fits.at(marker, way);
    }

    public int joint() throws IllegalStateException {
        if (markers.size == 0) {
            throw new IllegalStateException();
        }
        sums.takeRates();
        sums.sumTo(Sums.JOINT);
        pageLength = sums.totals.write(Sums.JOINT, page);
        return pageLength;
    }

    public int odds(int n) throws IllegalArgumentException, IllegalStateException {
        if (n < 1 || n > HIGHEST_N) {
            throw new IllegalArgumentException();
        }
        if (markers.size == 0) {
            throw new IllegalStateException();
        }
        sums.takeRates();
        sums.sumTo(Sums.JOINT);
        sums.freeRates();
        sums.sumTo(Sums.OTHER);
        return sums.quotient(Sums.JOINT, n, Sums.OTHER);
    }

    public int would(int gap, int k) throws IndexOutOfBoundsException, IllegalArgumentException {
        if (!markers.hasGap(gap)) {
            throw new IndexOutOfBoundsException();
        }
        if (!isRate(k)) {
            throw new IllegalArgumentException();
        }
        sums.takeRates();
        sums.sumTo(Sums.JOINT);
        sums.changeRate(gap, k);
        sums.sumTo(Sums.OTHER);
        return sums.totals.compare(Sums.OTHER, Sums.JOINT);
    }

    public int best(int gap) throws IndexOutOfBoundsException {
        if (!markers.hasGap(gap)) {
            throw new IndexOutOfBoundsException();
        }
        sums.takeRates();
        return sums.rateOfGreatest(gap);
    }

    public int turned(int marker, int bit) throws IndexOutOfBoundsException {
        if (!markers.hasMarker(marker) || bit < 0 || bit >= family.bits()) {
            throw new IndexOutOfBoundsException();
        }
        sums.takeRates();
        sums.split(marker);
        return sums.thousandthsTurned(bit);
    }

    public int shared(int marker, int one, int other) throws IndexOutOfBoundsException {
        if (!markers.hasMarker(marker) || !family.hasPerson(one) || !family.hasPerson(other)) {
            throw new IndexOutOfBoundsException();
        }
        sums.takeRates();
        sums.split(marker);
        return sums.thousandthsShared(one, other);
    }

    public int likely(int marker) throws IndexOutOfBoundsException {
        if (!markers.hasMarker(marker)) {
            throw new IndexOutOfBoundsException();
        }
        sums.takeRates();
        sums.split(marker);
        return sums.wayOfGreatest();
    }

    public int length() {
        return pageLength;
    }

    public char charAt(int p) {
        return p >= 0 && p < pageLength ? page[p] : ' ';
    }

    private int exponent() {
        return 2 * family.children
                + 6 * family.founders * markers.size
                + 8 * family.children * markers.gaps();
    }

    // Each weight is held against 8 by itself, for three large ints can wrap around to a sum of 8.
    private static boolean areWeights(int one, int two, int three) {
        return isWeight(one) && isWeight(two) && isWeight(three) && one + two + three == WHOLE_WEIGHT;
    }

    private static boolean isWeight(int weight) {
        return weight >= 0 && weight <= WHOLE_WEIGHT;
    }

    private static boolean isRate(int k) {
        return k >= 0 && k <= HIGHEST_RATE;
    }

    private static boolean isLetter(int letter) {
        return letter >= 1 && letter <= LETTERS;
    }

    /** Who there is, and who comes from whom. */
    private static final class Family {
        private final int[] fathers;
        private final int[] mothers;
        // A founder's number among the founders, a child's among the children.
        private final int[] ranks;
        private int founders;
        private int children;

        Family() {
            fathers = new int[MOST_PERSONS];
            mothers = new int[MOST_PERSONS];
            ranks = new int[MOST_PERSONS];
            founders = 0;
            children = 0;
        }

        int persons() {
            return founders + children;
        }

        int bits() {
            return 2 * children;
        }

        int ways() {
            return 1 << bits();
        }

        boolean hasPerson(int person) {
            return person >= 0 && person < persons();
        }

        boolean hasWay(int way) {
            return way >= 0 && way < ways();
        }

        int addFounder() {
            int number = persons();
            fathers[number] = NONE;
            mothers[number] = NONE;
            ranks[number] = founders;
            founders++;
            return number;
        }

        int addChild(int father, int mother) {
            int number = persons();
            fathers[number] = father;
            mothers[number] = mother;
            ranks[number] = children;
            children++;
            return number;
        }

        /** The founder's copy, 2 * its number among the founders + its copy, that a person's copy is. */
        int sourceOf(int person, int copy, int way) {
            int holder = person;
            int held = copy;
            // Parents stand before their children, so a line goes up through each child once at most.
            for (int step = 0; step < MOST_CHILDREN && fathers[holder] != NONE; step++) {
                int bit = (way >> (2 * ranks[holder] + held)) & 1;
                holder = held == 0 ? fathers[holder] : mothers[holder];
                held = bit;
            }
            return 2 * ranks[holder] + held;
        }

        boolean shareCopy(int one, int other, int way) {
            int first = sourceOf(one, 0, way);
            int second = sourceOf(one, 1, way);
            int third = sourceOf(other, 0, way);
            int fourth = sourceOf(other, 1, way);
            return first == third || first == fourth || second == third || second == fourth;
        }
    }

    /** The markers in their line, the rates between them, and who is seen there with which letters. */
    private static final class Markers {
        private final int[] weights;
        private final int[] rates;
        private final int[] oneLetters;
        private final int[] otherLetters;
        private int size;
        private int sightings;

        Markers() {
            weights = new int[MOST_MARKERS * LETTERS];
            rates = new int[MOST_GAPS];
            oneLetters = new int[MOST_MARKERS * MOST_PERSONS];
            otherLetters = new int[MOST_MARKERS * MOST_PERSONS];
            size = 0;
            sightings = 0;
        }

        int gaps() {
            return size > 0 ? size - 1 : 0;
        }

        boolean hasMarker(int marker) {
            return marker >= 0 && marker < size;
        }

        boolean hasGap(int gap) {
            return gap >= 0 && gap < gaps();
        }

        int add(int one, int two, int three) {
            int number = size;
            weights[number * LETTERS] = one;
            weights[number * LETTERS + 1] = two;
            weights[number * LETTERS + 2] = three;
            if (number > 0) {
                rates[number - 1] = HIGHEST_RATE;
            }
            size++;
            return number;
        }

        /** A copy that nothing is known of has any letter, so its weights make up the whole. */
        int weightOf(int marker, int letter) {
            return letter == NO_LETTER ? WHOLE_WEIGHT : weights[marker * LETTERS + letter - 1];
        }

        boolean isSeen(int person, int marker) {
            return oneLetters[marker * MOST_PERSONS + person] != NO_LETTER;
        }

        int oneLetter(int person, int marker) {
            return oneLetters[marker * MOST_PERSONS + person];
        }

        int otherLetter(int person, int marker) {
            return otherLetters[marker * MOST_PERSONS + person];
        }

        void putSighting(int person, int marker, int one, int other) {
            if (!isSeen(person, marker)) {
                sightings++;
            }
            oneLetters[marker * MOST_PERSONS + person] = one;
            otherLetters[marker * MOST_PERSONS + person] = other;
        }

        void dropSighting(int person, int marker) {
            if (isSeen(person, marker)) {
                sightings--;
            }
            oneLetters[marker * MOST_PERSONS + person] = NO_LETTER;
            otherLetters[marker * MOST_PERSONS + person] = NO_LETTER;
        }
    }

    /** FIT of every marker and way, reckoned when it changes: each sum reads it many times. */
    private static final class Fits {
        private final Family family;
        private final Markers markers;
        private final int[] table;
        // The letter that a founder's copy must have by what the search has laid down so far.
        private final int[] letters;

        Fits(Family family, Markers markers) {
            this.family = family;
            this.markers = markers;
            table = new int[MOST_MARKERS * MOST_WAYS];
            letters = new int[2 * MOST_FOUNDERS];
        }

        int at(int marker, int way) {
            return table[marker * MOST_WAYS + way];
        }

        void renewAll() {
            for (int marker = 0; marker < markers.size; marker++) {
                renew(marker);
            }
        }

        void renew(int marker) {
            for (int way = 0; way < family.ways(); way++) {
                table[marker * MOST_WAYS + way] = sumFrom(0, marker, way);
            }
        }

        /**
         * What the letters laid down weigh, over all that the persons from this one on can add.
         * The two orders of a person's two letters lay down different letters, so none is counted twice.
         */
        private int sumFrom(int person, int marker, int way) {
            if (person >= family.persons()) {
                return weightOfLetters(marker);
            }
            if (!markers.isSeen(person, marker)) {
                return sumFrom(person + 1, marker, way);
            }
            int one = markers.oneLetter(person, marker);
            int other = markers.otherLetter(person, marker);
            int sum = sumWith(person, marker, way, one, other);
            if (one != other) {
                sum += sumWith(person, marker, way, other, one);
            }
            return sum;
        }

        /** As sumFrom, the person's copies having these letters in this order. */
        private int sumWith(int person, int marker, int way, int first, int second) {
            int sum = 0;
            int firstSource = family.sourceOf(person, 0, way);
            int firstBefore = letters[firstSource];
            if (firstBefore == NO_LETTER || firstBefore == first) {
                letters[firstSource] = first;
                // Looked at only now, for both copies may be the same copy of a founder.
                int secondSource = family.sourceOf(person, 1, way);
                int secondBefore = letters[secondSource];
                if (secondBefore == NO_LETTER || secondBefore == second) {
                    letters[secondSource] = second;
                    sum = sumFrom(person + 1, marker, way);
                    letters[secondSource] = secondBefore;
                }
                letters[firstSource] = firstBefore;
            }
            return sum;
        }

        private int weightOfLetters(int marker) {
            int weight = 1;
            for (int source = 0; source < 2 * family.founders; source++) {
                weight *= markers.weightOf(marker, letters[source]);
            }
            return weight;
        }
    }

    /**
     * A row of whole numbers from 0 on. JOINT is 2^150 at most; the greatest number of all, 2^28 times
     * that when a quotient is tried out, is below 10^54.
     */
    private static final class Amounts {
        private static final int DIGITS = 54;
        // In base 10^9 six products of two places and what is carried still fit into a long.
        private static final long BASE = 1000000000L;
        private static final int DIGITS_A_PLACE = 9;
        private static final int PLACES = DIGITS / DIGITS_A_PLACE;
        private static final int[] TENS = {
            1, 10, 100, 1000, 10000, 100000, 1000000, 10000000, 100000000
        };

        // The least place first.
        private final long[] places;

        Amounts(int size) {
            places = new long[size * PLACES];
        }

        /** Value is below the base. */
        void set(int index, int value) {
            int start = index * PLACES;
            places[start] = value;
            for (int place = 1; place < PLACES; place++) {
                places[start + place] = 0;
            }
        }

        void copy(int to, int from) {
            for (int place = 0; place < PLACES; place++) {
                places[to * PLACES + place] = places[from * PLACES + place];
            }
        }

        void add(int to, Amounts others, int from) {
            long carry = 0;
            for (int place = 0; place < PLACES; place++) {
                long sum = places[to * PLACES + place] + others.places[from * PLACES + place] + carry;
                places[to * PLACES + place] = sum % BASE;
                carry = sum / BASE;
            }
        }

        void multiply(int index, int factor) {
            int start = index * PLACES;
            long carry = 0;
            for (int place = 0; place < PLACES; place++) {
                long product = places[start + place] * factor + carry;
                places[start + place] = product % BASE;
                carry = product / BASE;
            }
        }

        /** Puts the product of the two rows' numbers of this index here; it is neither of them. */
        void setProduct(int index, Amounts left, Amounts right) {
            int start = index * PLACES;
            long column = 0;
            for (int place = 0; place < PLACES; place++) {
                for (int low = 0; low <= place; low++) {
                    column += left.places[start + low] * right.places[start + place - low];
                }
                places[start + place] = column % BASE;
                column = column / BASE;
            }
        }

        /** Two ways that differ in one bit: what reaches each when the bit may have changed. */
        void blend(int one, int other, int rate) {
            int stay = WHOLE_RATE - rate;
            long carryOne = 0;
            long carryOther = 0;
            for (int place = 0; place < PLACES; place++) {
                long valueOne = places[one * PLACES + place];
                long valueOther = places[other * PLACES + place];
                long toOne = stay * valueOne + rate * valueOther + carryOne;
                long toOther = rate * valueOne + stay * valueOther + carryOther;
                places[one * PLACES + place] = toOne % BASE;
                places[other * PLACES + place] = toOther % BASE;
                carryOne = toOne / BASE;
                carryOther = toOther / BASE;
            }
        }

        boolean isZero(int index) {
            for (int place = 0; place < PLACES; place++) {
                if (places[index * PLACES + place] != 0) {
                    return false;
                }
            }
            return true;
        }

        int compare(int one, int other) {
            for (int place = PLACES - 1; place >= 0; place--) {
                long valueOne = places[one * PLACES + place];
                long valueOther = places[other * PLACES + place];
                if (valueOne != valueOther) {
                    return valueOne > valueOther ? 1 : -1;
                }
            }
            return 0;
        }

        /** Writes a number in decimal from the start of the text on; how many digits. */
        int write(int index, char[] text) {
            int written = 0;
            for (int digitAt = DIGITS - 1; digitAt >= 0; digitAt--) {
                long place = places[index * PLACES + digitAt / DIGITS_A_PLACE];
                int digit = (int) (place / TENS[digitAt % DIGITS_A_PLACE] % 10);
                if (digit != 0 || written > 0 || digitAt == 0) {
                    text[written] = (char) ('0' + digit);
                    written++;
                }
            }
            return written;
        }
    }

    /** JOINT, whole and split up by the way at one marker, with rates that may be tried out. */
    private static final class Sums {
        private static final int JOINT = 0;
        private static final int OTHER = 1;
        private static final int GREATEST = 2;
        private static final int TRIAL = 3;
        private static final int TOTALS = 4;
        // JOINT is at most 4^(3 * 3) times FREE, and n at most 1000: no quotient reaches 2^28.
        private static final int QUOTIENT_BITS = 28;

        private final Family family;
        private final Markers markers;
        private final Fits fits;
        private final int[] rates;
        private final Amounts before;
        private final Amounts behind;
        private final Amounts parts;
        private final Amounts totals;

        Sums(Family family, Markers markers, Fits fits) {
            this.family = family;
            this.markers = markers;
            this.fits = fits;
            rates = new int[MOST_GAPS];
            before = new Amounts(MOST_WAYS);
            behind = new Amounts(MOST_WAYS);
            parts = new Amounts(MOST_WAYS);
            totals = new Amounts(TOTALS);
        }

        void takeRates() {
            for (int gap = 0; gap < markers.gaps(); gap++) {
                rates[gap] = markers.rates[gap];
            }
        }

        void freeRates() {
            for (int gap = 0; gap < markers.gaps(); gap++) {
                rates[gap] = HIGHEST_RATE;
            }
        }

        void changeRate(int gap, int k) {
            rates[gap] = k;
        }

        /** JOINT with the rates that are tried; there is a marker. */
        void sumTo(int total) {
            int last = markers.size - 1;
            comeFromBefore(last);
            multiplyByFits(before, last);
            addUp(total, before);
        }

        /** Splits JOINT up by the way at a marker, and sums it. */
        void split(int marker) {
            comeFromBefore(marker);
            comeFromBehind(marker);
            for (int way = 0; way < family.ways(); way++) {
                parts.setProduct(way, before, behind);
            }
            multiplyByFits(parts, marker);
            addUp(JOINT, parts);
        }

        int rateOfGreatest(int gap) {
            int greatest = 0;
            changeRate(gap, 0);
            sumTo(GREATEST);
            for (int k = 1; k <= HIGHEST_RATE; k++) {
                changeRate(gap, k);
                sumTo(OTHER);
                if (totals.compare(OTHER, GREATEST) > 0) {
                    totals.copy(GREATEST, OTHER);
                    greatest = k;
                }
            }
            return greatest;
        }

        int thousandthsTurned(int bit) {
            totals.set(OTHER, 0);
            for (int way = 0; way < family.ways(); way++) {
                if (((way >> bit) & 1) == 1) {
                    totals.add(OTHER, parts, way);
                }
            }
            return quotient(OTHER, 1000, JOINT);
        }

        int thousandthsShared(int one, int other) {
            totals.set(OTHER, 0);
            for (int way = 0; way < family.ways(); way++) {
                if (family.shareCopy(one, other, way)) {
                    totals.add(OTHER, parts, way);
                }
            }
            return quotient(OTHER, 1000, JOINT);
        }

        int wayOfGreatest() {
            if (totals.isZero(JOINT)) {
                return NONE;
            }
            int greatest = 0;
            for (int way = 1; way < family.ways(); way++) {
                if (parts.compare(way, greatest) > 0) {
                    greatest = way;
                }
            }
            return greatest;
        }

        /** Part * times / whole, NONE if the whole is 0; the part is spent. */
        int quotient(int part, int times, int whole) {
            if (totals.isZero(whole)) {
                return NONE;
            }
            totals.multiply(part, times);
            int quotient = 0;
            for (int bit = QUOTIENT_BITS - 1; bit >= 0; bit--) {
                int tried = quotient + (1 << bit);
                totals.copy(TRIAL, whole);
                totals.multiply(TRIAL, tried);
                if (totals.compare(TRIAL, part) <= 0) {
                    quotient = tried;
                }
            }
            return quotient;
        }

        private void comeFromBefore(int marker) {
            fillWithOnes(before);
            for (int passed = 0; passed < marker; passed++) {
                multiplyByFits(before, passed);
                crossGap(before, passed);
            }
        }

        // Rates are the same in both directions, so the line may be walked from its end too.
        private void comeFromBehind(int marker) {
            fillWithOnes(behind);
            for (int passed = markers.size - 1; passed > marker; passed--) {
                multiplyByFits(behind, passed);
                crossGap(behind, passed - 1);
            }
        }

        private void fillWithOnes(Amounts row) {
            for (int way = 0; way < family.ways(); way++) {
                row.set(way, 1);
            }
        }

        private void multiplyByFits(Amounts row, int marker) {
            for (int way = 0; way < family.ways(); way++) {
                row.multiply(way, fits.at(marker, way));
            }
        }

        // Bits change by themselves, so a bit at a time does what all pairs of ways would.
        private void crossGap(Amounts row, int gap) {
            for (int bit = 0; bit < family.bits(); bit++) {
                int set = 1 << bit;
                for (int way = 0; way < family.ways(); way++) {
                    if ((way & set) == 0) {
                        row.blend(way, way | set, rates[gap]);
                    }
                }
            }
        }

        private void addUp(int total, Amounts row) {
            totals.set(total, 0);
            for (int way = 0; way < family.ways(); way++) {
                totals.add(total, row, way);
            }
        }
    }
}
