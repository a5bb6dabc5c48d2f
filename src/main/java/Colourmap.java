import java.util.NoSuchElementException;

/**
 * Colourings of a map with at most nine places.
 *
 * <p>All rows are made in the constructors and used again, so that no call but one that throws makes an object.
 */
public final class Colourmap {
    private static final int MOST_PLACES = 9;
    private static final int MOST_COLOURS_COUNTED = 4;
    private static final int MOST_WAYS_TRIED = 10;
    private static final int MOST_DIGITS = 100;

    private Chart map = new Chart();
    private Chart spare = new Chart();
    private final Polynomial polynomial = new Polynomial();
    private final Colours colours = new Colours();
    private final Directions directed = new Directions();
    private final Whole one = new Whole();
    private final Whole two = new Whole();
    // isTrue() looks at two maps made from the map; they have rows of their own so that the map stays as it is.
    private final Chart torn = new Chart();
    private final Chart drawn = new Chart();
    private final Polynomial tornPolynomial = new Polynomial();
    private final Polynomial drawnPolynomial = new Polynomial();

    public Colourmap() {
    }

    // ---- the map

    public int begin(int many) throws IllegalArgumentException {
        if (many < 0 || many > MOST_PLACES) {
            throw new IllegalArgumentException("many is out of range");
        }
        int before = map.size();
        map.reset(many);
        return before;
    }

    public int place() throws IllegalStateException {
        needRoomFor(1);
        map.append(0);
        return map.size();
    }

    public int star() throws IllegalStateException {
        needRoomFor(1);
        map.append(map.all());
        return map.wayCount();
    }

    public int leave(int p) throws IndexOutOfBoundsException {
        needPlace(p);
        int gone = Integer.bitCount(map.near(p));
        map.remove(p);
        return gone;
    }

    public boolean way(int a, int b) throws IndexOutOfBoundsException, IllegalArgumentException {
        needTwoPlaces(a, b);
        boolean none = !map.joined(a, b);
        map.join(a, b);
        return none;
    }

    public int tear(int a, int b) throws IndexOutOfBoundsException, NoSuchElementException {
        needPlace(a);
        needPlace(b);
        if (!map.joined(a, b)) {
            throw new NoSuchElementException("there is no way between them");
        }
        map.cut(a, b);
        return map.wayCount();
    }

    public int draw(int a, int b) throws IndexOutOfBoundsException, IllegalArgumentException {
        needTwoPlaces(a, b);
        map.merge(a, b);
        return map.wayCount();
    }

    public boolean swap(int a, int b) throws IndexOutOfBoundsException {
        needPlace(a);
        needPlace(b);
        return map.exchange(a, b);
    }

    public int others() {
        map.invert();
        return map.wayCount();
    }

    // ---- the spare map

    public int keep() {
        int before = spare.size();
        spare.copyFrom(map);
        return before;
    }

    public boolean turn() {
        Chart old = map;
        map = spare;
        spare = old;
        return !map.sameAs(spare);
    }

    public int beside() throws IllegalStateException {
        needRoomFor(spare.size());
        map.appendAll(spare);
        return map.size();
    }

    // ---- places and ways

    public int places() {
        return map.size();
    }

    public int ways() {
        return map.wayCount();
    }

    public boolean isWay(int a, int b) throws IndexOutOfBoundsException {
        needPlace(a);
        needPlace(b);
        return map.joined(a, b);
    }

    public int degree(int p) throws IndexOutOfBoundsException {
        needPlace(p);
        return Integer.bitCount(map.near(p));
    }

    public int next(int p, int from) throws IndexOutOfBoundsException {
        needPlace(p);
        needNumber(from, 0);
        for (int q = from; q < map.size(); q++) {
            if (map.joined(p, q)) {
                return q;
            }
        }
        return -1;
    }

    public int previous(int p, int from) throws IndexOutOfBoundsException {
        needPlace(p);
        needNumber(from, -1);
        for (int q = Math.min(from, map.size() - 1); q >= 0; q--) {
            if (map.joined(p, q)) {
                return q;
            }
        }
        return -1;
    }

    public double mean() throws IllegalStateException {
        int many = map.size();
        if (many == 0) {
            throw new IllegalStateException("there are no places");
        }
        return (double) (2 * map.wayCount()) / (double) many;
    }

    // ---- sets

    public int pieces() {
        return Sets.pieceCount(map);
    }

    public int piece(int p) throws IndexOutOfBoundsException {
        needPlace(p);
        return Sets.leastOfPiece(map, p);
    }

    public int apart() {
        return Sets.mostApart(map);
    }

    public int together() {
        return Sets.mostTogether(map);
    }

    public int partings(int sets) throws IllegalArgumentException {
        if (sets < 0 || sets > MOST_PLACES) {
            throw new IllegalArgumentException("sets is out of range");
        }
        polynomial.read(map);
        return polynomial.partingsInto(sets);
    }

    // ---- colours

    public boolean isTwo() {
        return Sets.noOddRing(map);
    }

    public int fewest() {
        polynomial.read(map);
        return polynomial.leastSets();
    }

    public int colour(int p) throws IndexOutOfBoundsException {
        needPlace(p);
        return colours.inRow(map, p);
    }

    public int colourings(int k) throws IllegalArgumentException {
        if (k < 0 || k > MOST_COLOURS_COUNTED) {
            throw new IllegalArgumentException("k is out of range");
        }
        return colours.count(map, k);
    }

    public long coefficient(int power) throws IndexOutOfBoundsException {
        if (power < 0 || power > map.size()) {
            throw new IndexOutOfBoundsException("power is out of range");
        }
        polynomial.read(map);
        return polynomial.factor(power);
    }

    public int value(int k) throws ArithmeticException {
        evaluate(k, one);
        if (!one.fitsInt()) {
            throw new ArithmeticException("the value is not an int");
        }
        return (int) one.lowLong();
    }

    public long round(int k) {
        evaluate(k, one);
        return one.lowLong();
    }

    public int bits(int k) {
        evaluate(k, one);
        one.dropSign();
        return one.binaryDigits();
    }

    public int sign(int k) {
        evaluate(k, one);
        return one.signum();
    }

    public int digit(int k, int index) throws IndexOutOfBoundsException {
        if (index < 0 || index >= MOST_DIGITS) {
            throw new IndexOutOfBoundsException("index is out of range");
        }
        evaluate(k, one);
        one.dropSign();
        for (int i = 0; i < index; i++) {
            one.divideByTen();
        }
        return one.divideByTen();
    }

    public int rest(int k, int by) throws ArithmeticException {
        if (by < 1) {
            throw new ArithmeticException("by is below 1");
        }
        polynomial.read(map);
        return polynomial.restAt(k, by);
    }

    public int compare(int k, int other) {
        evaluate(k, one);
        evaluate(other, two);
        return one.against(two);
    }

    // ---- directions

    public long directions() {
        polynomial.read(map);
        return Math.abs(polynomial.at(-1));
    }

    public int tried() throws UnsupportedOperationException {
        if (map.wayCount() > MOST_WAYS_TRIED) {
            throw new UnsupportedOperationException("there are more than 10 ways");
        }
        return directed.countRingless(map);
    }

    // ---- all

    public boolean isTrue() {
        polynomial.read(map);
        return coefficientsHold() && countsHold() && directionsHold() && firstWayHolds() && fewestHolds();
    }

    public long checksum() {
        polynomial.read(map);
        long sum = mixChart(7, map);
        for (int i = 0; i <= map.size(); i++) {
            sum = mix(sum, polynomial.factor(i));
        }
        sum = mix(sum, polynomial.leastSets());
        return mixChart(sum, spare);
    }

    // ---- what the calls share

    private void needPlace(int p) {
        if (!map.has(p)) {
            throw new IndexOutOfBoundsException("no such place");
        }
    }

    private void needTwoPlaces(int a, int b) {
        needPlace(a);
        needPlace(b);
        if (a == b) {
            throw new IllegalArgumentException("both are the same");
        }
    }

    private void needNumber(int from, int least) {
        if (from < least) {
            throw new IndexOutOfBoundsException("the number is too low");
        }
    }

    private void needRoomFor(int more) {
        if (map.size() + more > MOST_PLACES) {
            throw new IllegalStateException("there would be more than 9 places");
        }
    }

    private void evaluate(int k, Whole result) {
        polynomial.read(map);
        result.clear();
        for (int i = map.size(); i >= 0; i--) {
            result.times(k);
            result.plus(polynomial.factor(i));
        }
    }

    private static long mix(long sum, long number) {
        return 31 * sum + number;
    }

    private static long mixChart(long start, Chart chart) {
        long sum = mix(start, chart.size());
        for (int p = 0; p < chart.size(); p++) {
            sum = mix(sum, chart.near(p));
        }
        return sum;
    }

    // ---- what the theorem tells

    private boolean coefficientsHold() {
        int top = map.size();
        if (polynomial.factor(top) != 1) {
            return false;
        }
        if (top > 0 && polynomial.factor(top - 1) != -map.wayCount()) {
            return false;
        }
        int lowest = Sets.pieceCount(map);
        for (int i = 0; i <= top; i++) {
            int due = i < lowest ? 0 : (top - i) % 2 == 0 ? 1 : -1;
            if (Long.compare(polynomial.factor(i), 0) != due) {
                return false;
            }
        }
        return true;
    }

    private boolean countsHold() {
        for (int k = 0; k <= 3; k++) {
            if (polynomial.at(k) != colours.count(map, k)) {
                return false;
            }
        }
        return true;
    }

    private boolean directionsHold() {
        return map.wayCount() > MOST_WAYS_TRIED
            || Math.abs(polynomial.at(-1)) == directed.countRingless(map);
    }

    private boolean firstWayHolds() {
        for (int a = 0; a < map.size(); a++) {
            for (int b = a + 1; b < map.size(); b++) {
                if (map.joined(a, b)) {
                    return wayHolds(a, b);
                }
            }
        }
        return true;
    }

    private boolean wayHolds(int a, int b) {
        torn.copyFrom(map);
        torn.cut(a, b);
        tornPolynomial.read(torn);
        drawn.copyFrom(map);
        drawn.merge(a, b);
        drawnPolynomial.read(drawn);
        for (int k = 0; k <= 9; k++) {
            if (polynomial.at(k) != tornPolynomial.at(k) - drawnPolynomial.at(k)) {
                return false;
            }
        }
        return true;
    }

    private boolean fewestHolds() {
        int least = polynomial.leastSets();
        return (polynomial.at(2) > 0) == Sets.noOddRing(map)
            && map.size() <= least * Sets.mostApart(map)
            && least >= Sets.mostTogether(map)
            && colours.countInRow(map) >= least;
    }

    /**
     * Places with the ways between them: for each place the set of its neighbours, a bit for each.
     * Its methods look at each number that they take, so that no row is ever left, whatever is asked.
     */
    private static final class Chart {
        private int count = 0;
        private final int[] rows = new int[MOST_PLACES];

        int size() {
            return count;
        }

        boolean has(int p) {
            return p >= 0 && p < count;
        }

        int all() {
            return (1 << count) - 1;
        }

        int near(int p) {
            return has(p) ? rows[p] : 0;
        }

        boolean joined(int a, int b) {
            return has(a) && has(b) && (rows[a] & 1 << b) != 0;
        }

        int wayCount() {
            int ends = 0;
            for (int p = 0; p < count; p++) {
                ends += Integer.bitCount(rows[p]);
            }
            return ends / 2;
        }

        void reset(int many) {
            count = Math.max(0, Math.min(many, MOST_PLACES));
            for (int p = 0; p < MOST_PLACES; p++) {
                rows[p] = 0;
            }
        }

        void append(int neighbours) {
            if (count >= MOST_PLACES) {
                return;
            }
            for (int p = 0; p < count; p++) {
                rows[p] |= (neighbours >> p & 1) << count;
            }
            rows[count] = neighbours & all();
            count++;
        }

        void appendAll(Chart other) {
            int first = count;
            for (int p = 0; p < other.count; p++) {
                int behind = other.rows[p] & (1 << p) - 1;
                append(behind << first);
            }
        }

        void remove(int gone) {
            if (!has(gone)) {
                return;
            }
            count--;
            for (int p = 0; p < count; p++) {
                rows[p] = withoutBit(rows[p < gone ? p : p + 1], gone);
            }
            rows[count] = 0;
        }

        private static int withoutBit(int bits, int gone) {
            int below = bits & (1 << gone) - 1;
            int above = bits >> gone + 1 << gone;
            return below | above;
        }

        void join(int a, int b) {
            if (has(a) && has(b) && a != b) {
                rows[a] |= 1 << b;
                rows[b] |= 1 << a;
            }
        }

        void cut(int a, int b) {
            if (has(a) && has(b)) {
                rows[a] &= ~(1 << b);
                rows[b] &= ~(1 << a);
            }
        }

        void merge(int stays, int goes) {
            for (int p = 0; p < count; p++) {
                if (joined(goes, p)) {
                    join(stays, p);
                }
            }
            remove(goes);
        }

        /** Tells whether a way is now where none was, or the other way round. */
        boolean exchange(int a, int b) {
            if (!has(a) || !has(b)) {
                return false;
            }
            boolean changes = (rows[a] & ~(1 << b)) != (rows[b] & ~(1 << a));
            int row = rows[a];
            rows[a] = rows[b];
            rows[b] = row;
            for (int p = 0; p < count; p++) {
                rows[p] = withBitsExchanged(rows[p], a, b);
            }
            return changes;
        }

        private static int withBitsExchanged(int bits, int a, int b) {
            boolean alike = (bits >> a & 1) == (bits >> b & 1);
            return alike ? bits : bits ^ (1 << a | 1 << b);
        }

        void invert() {
            for (int p = 0; p < count; p++) {
                rows[p] = all() & ~rows[p] & ~(1 << p);
            }
        }

        void copyFrom(Chart other) {
            count = other.count;
            for (int p = 0; p < MOST_PLACES; p++) {
                rows[p] = other.rows[p];
            }
        }

        boolean sameAs(Chart other) {
            if (count != other.count) {
                return false;
            }
            for (int p = 0; p < count; p++) {
                if (rows[p] != other.rows[p]) {
                    return false;
                }
            }
            return true;
        }
    }

    /** What the sets of places of a map tell; a set is a number with a bit for each place. */
    private static final class Sets {
        static int pieceCount(Chart chart) {
            int found = 0;
            for (int p = 0; p < chart.size(); p++) {
                if (leastOfPiece(chart, p) == p) {
                    found++;
                }
            }
            return found;
        }

        static int leastOfPiece(Chart chart, int p) {
            int reached = 1 << p;
            for (int round = 0; round < chart.size(); round++) {
                reached |= neighboursOf(chart, reached);
            }
            for (int q = 0; q < p; q++) {
                if ((reached >> q & 1) != 0) {
                    return q;
                }
            }
            return p;
        }

        private static int neighboursOf(Chart chart, int set) {
            int found = 0;
            for (int p = 0; p < chart.size(); p++) {
                if ((set >> p & 1) != 0) {
                    found |= chart.near(p);
                }
            }
            return found;
        }

        /** A ring with an odd number of ways leads to a place by an even and by an odd number of steps. */
        static boolean noOddRing(Chart chart) {
            int even = 0;
            int odd = 0;
            for (int p = 0; p < chart.size(); p++) {
                if (((even | odd) >> p & 1) == 0) {
                    even |= 1 << p;
                    // Twice as many rounds as places: a shortest walk of either kind comes to a place at most twice.
                    for (int round = 0; round < chart.size(); round++) {
                        odd |= neighboursOf(chart, even);
                        even |= neighboursOf(chart, odd);
                    }
                }
            }
            return (even & odd) == 0;
        }

        static int mostApart(Chart chart) {
            int most = 0;
            for (int set = 0; set <= chart.all(); set++) {
                int many = Integer.bitCount(set);
                if (many > most && areApart(chart, set)) {
                    most = many;
                }
            }
            return most;
        }

        private static boolean areApart(Chart chart, int set) {
            return (neighboursOf(chart, set) & set) == 0;
        }

        static int mostTogether(Chart chart) {
            int most = 0;
            for (int set = 0; set <= chart.all(); set++) {
                int many = Integer.bitCount(set);
                if (many > most && areTogether(chart, set)) {
                    most = many;
                }
            }
            return most;
        }

        private static boolean areTogether(Chart chart, int set) {
            for (int p = 0; p < chart.size(); p++) {
                boolean within = (set >> p & 1) != 0;
                if (within && (set & ~chart.near(p)) != 1 << p) {
                    return false;
                }
            }
            return true;
        }
    }

    /** The row colouring, and the number of colourings. */
    private static final class Colours {
        private final int[] row = new int[MOST_PLACES];
        private final int[] painted = new int[MOST_COLOURS_COUNTED];

        int inRow(Chart chart, int p) {
            paintRow(chart);
            return p >= 0 && p < MOST_PLACES ? row[p] : 0;
        }

        int countInRow(Chart chart) {
            paintRow(chart);
            int many = 0;
            for (int p = 0; p < chart.size(); p++) {
                many = Math.max(many, row[p] + 1);
            }
            return many;
        }

        private void paintRow(Chart chart) {
            for (int p = 0; p < chart.size(); p++) {
                int taken = 0;
                for (int q = 0; q < p; q++) {
                    if (chart.joined(p, q)) {
                        taken |= 1 << row[q];
                    }
                }
                row[p] = leastNotIn(taken);
            }
        }

        private static int leastNotIn(int taken) {
            int colour = 0;
            while (colour < MOST_PLACES && (taken >> colour & 1) != 0) {
                colour++;
            }
            return colour;
        }

        int count(Chart chart, int k) {
            return paint(chart, painted, 0, 0, k);
        }

        /**
         * Counts the ways to go on from a place, when so many colours are in use.
         * Colours that are not in use yet are alike: one of them is tried, and counts for all.
         */
        private static int paint(Chart chart, int[] painted, int p, int used, int k) {
            if (p >= chart.size()) {
                return 1;
            }
            int near = chart.near(p);
            int bit = 1 << p;
            int found = 0;
            for (int c = 0; c < used && c < painted.length; c++) {
                if ((painted[c] & near) == 0) {
                    painted[c] |= bit;
                    found += paint(chart, painted, p + 1, used, k);
                    painted[c] &= ~bit;
                }
            }
            if (used < k && used < painted.length) {
                painted[used] = bit;
                found += (k - used) * paint(chart, painted, p + 1, used + 1, k);
                painted[used] = 0;
            }
            return found;
        }
    }

    /** The partings of a map into sets, and the polynomial that they give. */
    private static final class Polynomial {
        private boolean isRead = false;
        private final Chart chart = new Chart();
        private final int[] sets = new int[MOST_PLACES];
        private final int[] partings = new int[MOST_PLACES + 1];
        private final long[] factors = new long[MOST_PLACES + 1];

        /** Works only if the map is another one than at the last time. */
        void read(Chart other) {
            if (isRead && chart.sameAs(other)) {
                return;
            }
            isRead = true;
            chart.copyFrom(other);
            countPartings();
            multiplyOut();
        }

        int partingsInto(int many) {
            return many >= 0 && many <= MOST_PLACES ? partings[many] : 0;
        }

        int leastSets() {
            for (int j = 0; j < chart.size(); j++) {
                if (partings[j] > 0) {
                    return j;
                }
            }
            return chart.size();
        }

        long factor(int power) {
            return power >= 0 && power <= MOST_PLACES ? factors[power] : 0;
        }

        /** The value, for a k so near to 0 that a long has room for it. */
        long at(long k) {
            long sum = 0;
            for (int i = chart.size(); i >= 0; i--) {
                sum = sum * k + factors[i];
            }
            return sum;
        }

        int restAt(int k, int by) {
            if (by < 1) {
                return 0;
            }
            long step = Math.floorMod((long) k, (long) by);
            long left = 0;
            for (int i = chart.size(); i >= 0; i--) {
                left = Math.floorMod(left * step + factors[i], (long) by);
            }
            return (int) left;
        }

        private void countPartings() {
            for (int j = 0; j <= MOST_PLACES; j++) {
                partings[j] = 0;
            }
            if (chart.size() == 0) {
                partings[0] = 1;
            } else {
                part(chart, sets, 0, 0, partings);
            }
        }

        /** Puts a place, and then those behind it, into each of the sets in use, and into a new one. */
        private static void part(Chart chart, int[] sets, int p, int used, int[] found) {
            if (p >= chart.size() || used >= sets.length || used + 1 >= found.length) {
                return;
            }
            int near = chart.near(p);
            int bit = 1 << p;
            boolean isLast = p == chart.size() - 1;
            for (int s = 0; s < used; s++) {
                if ((sets[s] & near) == 0) {
                    if (isLast) {
                        found[used]++;
                    } else {
                        sets[s] |= bit;
                        part(chart, sets, p + 1, used, found);
                        sets[s] &= ~bit;
                    }
                }
            }
            if (isLast) {
                found[used + 1]++;
            } else {
                sets[used] = bit;
                part(chart, sets, p + 1, used + 1, found);
                sets[used] = 0;
            }
        }

        /** From p0 + k (p1 + (k - 1) (p2 + (k - 2) (..))), p being the partings, to the powers of k. */
        private void multiplyOut() {
            for (int i = 0; i <= MOST_PLACES; i++) {
                factors[i] = 0;
            }
            int top = chart.size();
            factors[0] = partings[top];
            for (int j = top - 1; j >= 0; j--) {
                for (int i = top - j; i >= 1; i--) {
                    factors[i] = factors[i - 1] - j * factors[i];
                }
                factors[0] = partings[j] - j * factors[0];
            }
        }
    }

    /** The directions of the ways of a map with few ways. */
    private static final class Directions {
        private final int[] from = new int[MOST_WAYS_TRIED];
        private final int[] to = new int[MOST_WAYS_TRIED];
        private final int[] leads = new int[MOST_PLACES];
        private int many = 0;

        int countRingless(Chart chart) {
            readWays(chart);
            for (int p = 0; p < MOST_PLACES; p++) {
                leads[p] = 0;
            }
            return direct(from, to, 0, many, leads);
        }

        private void readWays(Chart chart) {
            many = 0;
            for (int a = 0; a < chart.size(); a++) {
                for (int b = a + 1; b < chart.size(); b++) {
                    if (chart.joined(a, b) && many < MOST_WAYS_TRIED) {
                        from[many] = a;
                        to[many] = b;
                        many++;
                    }
                }
            }
        }

        /** Lets a way, and then those behind it, lead to either end. */
        private static int direct(int[] from, int[] to, int way, int many, int[] leads) {
            if (way >= many || way >= from.length || way >= to.length) {
                return isRingless(leads) ? 1 : 0;
            }
            int a = from[way];
            int b = to[way];
            leads[a] |= 1 << b;
            int found = direct(from, to, way + 1, many, leads);
            leads[a] &= ~(1 << b);
            leads[b] |= 1 << a;
            found += direct(from, to, way + 1, many, leads);
            leads[b] &= ~(1 << a);
            return found;
        }

        /** Takes out, again and again, the places that lead nowhere; those of a ring are never among them. */
        private static boolean isRingless(int[] leads) {
            int left = (1 << leads.length) - 1;
            for (int round = 0; round < leads.length && left != 0; round++) {
                for (int p = 0; p < leads.length; p++) {
                    if ((leads[p] & left) == 0) {
                        left &= ~(1 << p);
                    }
                }
            }
            return left == 0;
        }
    }

    /**
     * A whole number in ten parts of 32 binary digits, the lowest first, below 0 by the two's complement.
     * No value needs more than 280 digits and a sign: nine places, each with ways to all others, at -2 to the power of 31.
     */
    private static final class Whole {
        private static final int PARTS = 10;
        private static final int PART_BITS = 32;
        private static final long PART_MASK = 0xFFFFFFFFL;

        private final long[] parts = new long[PARTS];

        void clear() {
            for (int i = 0; i < PARTS; i++) {
                parts[i] = 0;
            }
        }

        void plus(long number) {
            long left = number;
            long carry = 0;
            for (int i = 0; i < PARTS; i++) {
                long sum = parts[i] + (left & PART_MASK) + carry;
                parts[i] = sum & PART_MASK;
                carry = sum >>> PART_BITS;
                left >>= PART_BITS;
            }
        }

        void times(int factor) {
            long size = Math.abs((long) factor);
            long carry = 0;
            for (int i = 0; i < PARTS; i++) {
                long product = parts[i] * size + carry;
                parts[i] = product & PART_MASK;
                carry = product >>> PART_BITS;
            }
            if (factor < 0) {
                negate();
            }
        }

        void dropSign() {
            if (isBelowZero()) {
                negate();
            }
        }

        private void negate() {
            for (int i = 0; i < PARTS; i++) {
                parts[i] = ~parts[i] & PART_MASK;
            }
            plus(1);
        }

        private boolean isBelowZero() {
            return parts[PARTS - 1] >> PART_BITS - 1 != 0;
        }

        int signum() {
            if (isBelowZero()) {
                return -1;
            }
            return binaryDigits() == 0 ? 0 : 1;
        }

        /** How many binary digits there are, of a number that is not below 0. */
        int binaryDigits() {
            for (int i = PARTS * PART_BITS - 1; i >= 0; i--) {
                if ((parts[i / PART_BITS] >> i % PART_BITS & 1) != 0) {
                    return i + 1;
                }
            }
            return 0;
        }

        long lowLong() {
            return parts[1] << PART_BITS | parts[0];
        }

        boolean fitsInt() {
            int low = (int) parts[0];
            long above = low < 0 ? PART_MASK : 0;
            for (int i = 1; i < PARTS; i++) {
                if (parts[i] != above) {
                    return false;
                }
            }
            return true;
        }

        /** Divides a number that is not below 0, and returns what is left over. */
        int divideByTen() {
            long over = 0;
            for (int i = PARTS - 1; i >= 0; i--) {
                long part = over << PART_BITS | parts[i];
                parts[i] = part / 10;
                over = part % 10;
            }
            return (int) over;
        }

        int against(Whole other) {
            if (isBelowZero() != other.isBelowZero()) {
                return isBelowZero() ? -1 : 1;
            }
            for (int i = PARTS - 1; i >= 0; i--) {
                if (parts[i] != other.parts[i]) {
                    return parts[i] < other.parts[i] ? -1 : 1;
                }
            }
            return 0;
        }
    }
}
