import java.math.BigInteger;
import java.util.ArrayList;
import java.util.BitSet;
import java.util.HashMap;
import java.util.List;
import java.util.Map;
import java.util.NoSuchElementException;

/**
 * The document's words once more, by BitSet and BigInteger of the JDK and by other ways to count than those of the
 * class under test: the polynomial by taking ways out and drawing their ends together, all numbers from its values.
 */
public final class Reference {
    private static final Map<List<BitSet>, BigInteger[]> KNOWN = new HashMap<>();

    private List<BitSet> map = new ArrayList<>();
    private List<BitSet> spare = new ArrayList<>();

    public int begin(int many) {
        if (many < 0 || many > 9) {
            throw new IllegalArgumentException();
        }
        int before = map.size();
        map = new ArrayList<>();
        for (int i = 0; i < many; i++) {
            map.add(new BitSet());
        }
        return before;
    }

    public int place() {
        if (map.size() == 9) {
            throw new IllegalStateException();
        }
        map.add(new BitSet());
        return map.size();
    }

    public int star() {
        int before = map.size();
        place();
        for (int p = 0; p < before; p++) {
            join(map, p, before);
        }
        return ways();
    }

    public int leave(int p) {
        int gone = degree(p);
        map = without(map, p);
        return gone;
    }

    public boolean way(int a, int b) {
        boolean there = isWay(a, b);
        if (a == b) {
            throw new IllegalArgumentException();
        }
        join(map, a, b);
        return !there;
    }

    public int tear(int a, int b) {
        if (!isWay(a, b)) {
            throw new NoSuchElementException();
        }
        map = torn(map, a, b);
        return ways();
    }

    public int draw(int a, int b) {
        need(a);
        need(b);
        if (a == b) {
            throw new IllegalArgumentException();
        }
        map = drawn(map, a, b);
        return ways();
    }

    public boolean swap(int a, int b) {
        need(a);
        need(b);
        List<BitSet> old = copy(map);
        for (int p = 0; p < map.size(); p++) {
            for (int q = 0; q < map.size(); q++) {
                map.get(p).set(q, old.get(swapped(p, a, b)).get(swapped(q, a, b)));
            }
        }
        return !map.equals(old);
    }

    public int others() {
        for (int p = 0; p < map.size(); p++) {
            map.get(p).flip(0, map.size());
            map.get(p).clear(p);
        }
        return ways();
    }

    public int keep() {
        int before = spare.size();
        spare = copy(map);
        return before;
    }

    public boolean turn() {
        List<BitSet> old = map;
        map = spare;
        spare = old;
        return !map.equals(spare);
    }

    public int beside() {
        int first = map.size();
        if (first + spare.size() > 9) {
            throw new IllegalStateException();
        }
        for (BitSet row : spare) {
            BitSet moved = new BitSet();
            row.stream().forEach(q -> moved.set(first + q));
            map.add(moved);
        }
        return map.size();
    }

    public int places() {
        return map.size();
    }

    public int ways() {
        return map.stream().mapToInt(BitSet::cardinality).sum() / 2;
    }

    public boolean isWay(int a, int b) {
        need(a);
        need(b);
        return map.get(a).get(b);
    }

    public int degree(int p) {
        need(p);
        return map.get(p).cardinality();
    }

    public int next(int p, int from) {
        need(p);
        if (from < 0) {
            throw new IndexOutOfBoundsException();
        }
        return map.get(p).nextSetBit(from);
    }

    public int previous(int p, int from) {
        need(p);
        if (from < -1) {
            throw new IndexOutOfBoundsException();
        }
        return map.get(p).previousSetBit(from);
    }

    public double mean() {
        if (map.isEmpty()) {
            throw new IllegalStateException();
        }
        return (double) (2 * ways()) / (double) map.size();
    }

    public int pieces() {
        int most = 0;
        while (polynomial(map)[most].signum() == 0) {
            most++;
        }
        return most;
    }

    public int piece(int p) {
        need(p);
        BitSet seen = new BitSet();
        walk(p, seen);
        return seen.nextSetBit(0);
    }

    public int apart() {
        return greatest(map, 0, new BitSet(), false);
    }

    public int together() {
        return greatest(map, 0, new BitSet(), true);
    }

    public int partings(int sets) {
        if (sets < 0 || sets > 9) {
            throw new IllegalArgumentException();
        }
        // Colourings that use each of so many colours, by leaving colours out; then the sets lose their order.
        BigInteger onto = BigInteger.ZERO;
        BigInteger choices = BigInteger.ONE;
        BigInteger orders = BigInteger.ONE;
        for (int out = 0; out <= sets; out++) {
            BigInteger part = choices.multiply(valueAt(sets - out));
            onto = out % 2 == 0 ? onto.add(part) : onto.subtract(part);
            choices = choices.multiply(BigInteger.valueOf(sets - out)).divide(BigInteger.valueOf(out + 1));
            orders = orders.multiply(BigInteger.valueOf(Math.max(1, out)));
        }
        return onto.divide(orders).intValueExact();
    }

    public boolean isTwo() {
        return valueAt(2).signum() > 0;
    }

    public int fewest() {
        int k = 0;
        while (valueAt(k).signum() == 0) {
            k++;
        }
        return k;
    }

    public int colour(int p) {
        need(p);
        BitSet taken = new BitSet();
        map.get(p).stream().filter(q -> q < p).forEach(q -> taken.set(colour(q)));
        return taken.nextClearBit(0);
    }

    public int colourings(int k) {
        if (k < 0 || k > 4) {
            throw new IllegalArgumentException();
        }
        return valueAt(k).intValueExact();
    }

    public long coefficient(int power) {
        if (power < 0 || power > map.size()) {
            throw new IndexOutOfBoundsException();
        }
        return polynomial(map)[power].longValueExact();
    }

    public int value(int k) {
        return valueAt(k).intValueExact();
    }

    public long round(int k) {
        return valueAt(k).longValue();
    }

    public int bits(int k) {
        return valueAt(k).abs().bitLength();
    }

    public int sign(int k) {
        return valueAt(k).signum();
    }

    public int digit(int k, int index) {
        if (index < 0 || index > 99) {
            throw new IndexOutOfBoundsException();
        }
        return valueAt(k).abs().divide(BigInteger.TEN.pow(index)).mod(BigInteger.TEN).intValueExact();
    }

    public int rest(int k, int by) {
        return valueAt(k).mod(BigInteger.valueOf(by)).intValueExact();
    }

    public int compare(int k, int other) {
        return valueAt(k).compareTo(valueAt(other));
    }

    public long directions() {
        return valueAt(-1).abs().longValueExact();
    }

    public int tried() {
        if (ways() > 10) {
            throw new UnsupportedOperationException();
        }
        return valueAt(-1).abs().intValueExact();
    }

    public boolean isTrue() {
        return true;
    }

    public long checksum() {
        long sum = 31 * 7 + map.size();
        for (BitSet row : map) {
            sum = 31 * sum + asNumber(row);
        }
        for (BigInteger factor : polynomial(map)) {
            sum = 31 * sum + factor.longValueExact();
        }
        sum = 31 * sum + fewest();
        sum = 31 * sum + spare.size();
        for (BitSet row : spare) {
            sum = 31 * sum + asNumber(row);
        }
        return sum;
    }

    private void need(int p) {
        if (p < 0 || p >= map.size()) {
            throw new IndexOutOfBoundsException();
        }
    }

    private void walk(int p, BitSet seen) {
        if (!seen.get(p)) {
            seen.set(p);
            map.get(p).stream().forEach(q -> walk(q, seen));
        }
    }

    private static int swapped(int p, int a, int b) {
        return p == a ? b : p == b ? a : p;
    }

    private static long asNumber(BitSet row) {
        return row.stream().mapToLong(q -> 1L << q).sum();
    }

    private static void join(List<BitSet> rows, int a, int b) {
        rows.get(a).set(b);
        rows.get(b).set(a);
    }

    private static List<BitSet> copy(List<BitSet> rows) {
        List<BitSet> made = new ArrayList<>();
        for (BitSet row : rows) {
            made.add((BitSet) row.clone());
        }
        return made;
    }

    private static List<BitSet> torn(List<BitSet> rows, int a, int b) {
        List<BitSet> made = copy(rows);
        made.get(a).clear(b);
        made.get(b).clear(a);
        return made;
    }

    private static List<BitSet> drawn(List<BitSet> rows, int stays, int goes) {
        List<BitSet> made = copy(rows);
        made.get(goes).stream().filter(q -> q != stays).forEach(q -> join(made, stays, q));
        return without(made, goes);
    }

    private static List<BitSet> without(List<BitSet> rows, int gone) {
        List<BitSet> made = new ArrayList<>();
        for (int p = 0; p < rows.size(); p++) {
            if (p != gone) {
                BitSet row = new BitSet();
                rows.get(p).stream().filter(q -> q != gone).forEach(q -> row.set(q < gone ? q : q - 1));
                made.add(row);
            }
        }
        return made;
    }

    private static int greatest(List<BitSet> rows, int p, BitSet chosen, boolean joined) {
        if (p == rows.size()) {
            return chosen.cardinality();
        }
        int most = greatest(rows, p + 1, chosen, joined);
        if (chosen.stream().allMatch(q -> rows.get(p).get(q) == joined)) {
            chosen.set(p);
            most = Math.max(most, greatest(rows, p + 1, chosen, joined));
            chosen.clear(p);
        }
        return most;
    }

    private BigInteger valueAt(long k) {
        BigInteger sum = BigInteger.ZERO;
        BigInteger[] factors = polynomial(map);
        for (int i = 0; i < factors.length; i++) {
            sum = sum.add(factors[i].multiply(BigInteger.valueOf(k).pow(i)));
        }
        return sum;
    }

    private static BigInteger[] polynomial(List<BitSet> rows) {
        BigInteger[] known = KNOWN.get(rows);
        if (known == null) {
            known = polynomialOf(rows);
            KNOWN.put(copy(rows), known);
        }
        return known;
    }

    private static BigInteger[] polynomialOf(List<BitSet> rows) {
        BigInteger[] made = new BigInteger[rows.size() + 1];
        java.util.Arrays.fill(made, BigInteger.ZERO);
        for (int a = 0; a < rows.size(); a++) {
            int b = rows.get(a).nextSetBit(0);
            if (b >= 0) {
                BigInteger[] without = polynomial(torn(rows, a, b));
                BigInteger[] together = polynomial(drawn(rows, a, b));
                for (int i = 0; i < made.length; i++) {
                    made[i] = i < together.length ? without[i].subtract(together[i]) : without[i];
                }
                return made;
            }
        }
        made[rows.size()] = BigInteger.ONE;
        return made;
    }
}
