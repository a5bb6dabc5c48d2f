import java.math.BigInteger;
import java.util.ArrayList;
import java.util.List;
import java.util.Map;
import java.util.TreeMap;
import java.util.function.Supplier;

/** The sentences that stand ahead of the first promise: what the object is, and the terms. */
public final class TermsTest extends Sentences {
    /** Numbers at which the values are looked at: the ends of int, those about 0, and those about the powers of 2. */
    private static final int[] ANY = {
        LEAST, LEAST + 1, -65536, -46341, -1290, -10, -9, -2, -1, 0, 1, 2, 3, 4, 5, 8, 9, 10, 255, 256, 1290, 46340,
        46341, 65535, 65536, MOST - 1, MOST};

    public static void main(String[] args) throws IllegalAccessException {
        new TermsTest().run();
    }

    // ---- what it is

    @Says(promise = 0, words = "Colourings of a map with at most nine places")
    void nineStandAndWork() {
        Colourmap x = Maps.complete(9);
        check.same("places", x.places(), 9);
        check.same("ways", x.ways(), 36);
        check.same("fewest", x.fewest(), 9);
        check.same("value(9)", x.value(9), 362880);
        check.yes("isTrue", x.isTrue());
    }

    @Says(promise = 0, words = "An object is used for at most 512 calls after it has been made")
    void call512AnswersAsTheFirst() {
        for (Map.Entry<String, OfMap> call : dearCalls().entrySet()) {
            for (int ways : new int[] {0, 5, 10, 36}) {
                Colourmap x = nineWithWays(ways);
                Object first = Check.outcome(() -> call.getValue().answer(nineWithWays(ways)));
                for (int i = 1 + ways; i < 511; i++) {
                    Check.outcome(() -> call.getValue().answer(x));
                }
                Object last = Check.outcome(() -> call.getValue().answer(x));
                check.same(call.getKey() + " as call 512 with " + ways + " ways", last, first);
            }
        }
    }

    private static Colourmap nineWithWays(int ways) {
        Colourmap x = Maps.mapOf(9);
        int left = ways;
        for (int a = 0; a < 9; a++) {
            for (int b = a + 1; b < 9 && left > 0; b++) {
                x.way(a, b);
                left--;
            }
        }
        return x;
    }

    private static Map<String, OfMap> dearCalls() {
        Map<String, OfMap> calls = new TreeMap<>();
        calls.put("isTrue", Colourmap::isTrue);
        calls.put("checksum", Colourmap::checksum);
        calls.put("tried", Colourmap::tried);
        calls.put("apart", Colourmap::apart);
        calls.put("together", Colourmap::together);
        calls.put("colourings", x -> x.colourings(4));
        calls.put("partings", x -> x.partings(5));
        calls.put("digit", x -> x.digit(LEAST, 84));
        calls.put("rest", x -> x.rest(LEAST, MOST));
        calls.put("compare", x -> x.compare(LEAST, MOST));
        calls.put("value", x -> x.value(LEAST));
        return calls;
    }

    // ---- the theorem

    @Says(promise = 0, words = "for each k from 0 on the value at k is the number of colourings with k colours, counted"
        + " one by one.")
    void valuesAreNumbersOfColourings() {
        for (Colourmap x : Maps.samples()) {
            boolean[][] joined = Maps.joined(x);
            // Nine places with more than 4 colours would take the test too long.
            for (int k = 0; k <= (joined.length < 6 ? 7 : 4); k++) {
                check.same("value(" + k + ") of " + Maps.text(joined), x.value(k), (int) Maps.colourings(joined, k));
            }
        }
    }

    @Says(promise = 0, words = "For each way the value, at any k, is that of the map without this way less that of the map"
        + " in which its ends are drawn together")
    void valueByTakingAWayOut() {
        for (Colourmap x : Maps.samples()) {
            boolean[][] joined = Maps.joined(x);
            for (int a = 0; a < joined.length; a++) {
                for (int b = 0; b < joined.length; b++) {
                    if (joined[a][b]) {
                        Colourmap without = Maps.of(joined);
                        without.tear(a, b);
                        lookAtSum(without, Maps.of(joined), a, b);
                    }
                }
            }
        }
    }

    @Says(promise = 0, words = "for each two places without a way between them it is that of the map with one there, plus"
        + " that of the map in which the two are drawn together.")
    void valueByPuttingAWay() {
        for (Colourmap x : Maps.samples()) {
            boolean[][] joined = Maps.joined(x);
            for (int a = 0; a < joined.length; a++) {
                for (int b = 0; b < joined.length; b++) {
                    if (a != b && !joined[a][b]) {
                        Colourmap with = Maps.of(joined);
                        with.way(a, b);
                        lookAtSum(Maps.of(joined), with, a, b);
                    }
                }
            }
        }
    }

    /** The map without a way has as many colourings as that with it and that with its ends drawn together. */
    private void lookAtSum(Colourmap without, Colourmap with, int a, int b) {
        String told = " of " + Maps.text(with) + " by " + a + " and " + b + " at ";
        Colourmap drawn = Maps.copyOf(without);
        drawn.draw(a, b);
        long[] less = Maps.coefficients(drawn);
        long[] sum = Maps.coefficients(without);
        long[] left = Maps.coefficients(with);
        for (int k : ANY) {
            check.same("round" + told + k, with.round(k), without.round(k) - drawn.round(k));
            check.same("value" + told + k, Maps.exact(left, k), Maps.exact(sum, k).subtract(Maps.exact(less, k)));
        }
    }

    @Says(promise = 0, words = "It is the product of the values of the pieces, each a map of its own")
    void valueIsProductOfPieces() {
        for (Colourmap x : Maps.samples()) {
            boolean[][] joined = Maps.joined(x);
            List<Colourmap> pieces = piecesOf(joined);
            for (int k : ANY) {
                BigInteger product = BigInteger.ONE;
                long round = 1;
                for (Colourmap piece : pieces) {
                    product = product.multiply(Maps.exact(piece, k));
                    round *= piece.round(k);
                }
                Colourmap whole = Maps.of(joined);
                check.same("value at " + k + " of " + Maps.text(joined), Maps.exact(whole, k), product);
                check.same("round at " + k + " of " + Maps.text(joined), whole.round(k), round);
            }
        }
    }

    private static List<Colourmap> piecesOf(boolean[][] joined) {
        List<Colourmap> pieces = new ArrayList<>();
        for (int p = 0; p < joined.length; p++) {
            if (Maps.of(joined).piece(p) == p) {
                pieces.add(pieceOf(joined, p));
            }
        }
        return pieces;
    }

    private static Colourmap pieceOf(boolean[][] joined, int p) {
        Colourmap whole = Maps.of(joined);
        Colourmap piece = Maps.of(joined);
        for (int q = joined.length - 1; q >= 0; q--) {
            if (whole.piece(q) != p) {
                piece.leave(q);
            }
        }
        return piece;
    }

    @Says(promise = 0, words = "the sum, for all j, of the number of partings into j sets times k (k - 1) (k - 2) .., j such"
        + " factors.")
    void valueIsSumOfPartings() {
        for (Colourmap x : Maps.samples()) {
            boolean[][] joined = Maps.joined(x);
            for (int k : ANY) {
                Colourmap y = Maps.of(joined);
                BigInteger sum = BigInteger.ZERO;
                for (int j = 0; j <= 9; j++) {
                    sum = sum.add(BigInteger.valueOf(y.partings(j)).multiply(Maps.falling(k, j)));
                }
                String told = " at " + k + " of " + Maps.text(joined);
                check.same("value" + told, Maps.exact(y, k), sum);
                check.same("round" + told, y.round(k), sum.longValue());
            }
        }
    }

    @Says(promise = 0, words = "If a place comes that has ways to all others, the value is then, at any k, k times that at k"
        + " - 1 before.")
    void valueAfterAStar() {
        for (Colourmap x : Maps.samples()) {
            if (x.places() < 9) {
                boolean[][] before = Maps.joined(x);
                long[] coefficients = Maps.coefficients(x);
                x.star();
                long[] after = Maps.coefficients(x);
                for (int k : ANY) {
                    BigInteger want = Maps.exact(coefficients, (long) k - 1).multiply(BigInteger.valueOf(k));
                    String told = " at " + k + " of " + Maps.text(before) + " with a star";
                    check.same("value" + told, Maps.exact(after, k), want);
                    check.same("round" + told, x.round(k), want.longValue());
                }
            }
        }
    }

    @Says(promise = 0, words = "The coefficient of the highest power, which is the number of places, is 1")
    void highestCoefficient() {
        for (Colourmap x : Maps.samples()) {
            check.same("highest coefficient of " + Maps.text(x), x.coefficient(x.places()), 1L);
            check.fails("one above it", INDEX, () -> x.coefficient(x.places() + 1));
        }
    }

    @Says(promise = 0, words = "that of the next lower one, if there are places, is the number of ways, taken below 0")
    void nextLowerCoefficient() {
        for (Colourmap x : Maps.samples()) {
            if (x.places() > 0) {
                check.same("next lower coefficient of " + Maps.text(x), x.coefficient(x.places() - 1), (long) -x.ways());
            } else {
                check.fails("next lower coefficient of none", INDEX, () -> x.coefficient(x.places() - 1));
            }
        }
    }

    @Says(promise = 0, words = "the signs alternate, and just those from the power that is the number of pieces up to the"
        + " highest one are not 0.")
    void signsOfCoefficients() {
        for (Colourmap x : Maps.samples()) {
            String told = Maps.text(x);
            for (int i = 0; i <= x.places(); i++) {
                int due = i < x.pieces() ? 0 : (x.places() - i) % 2 == 0 ? 1 : -1;
                check.same("sign of coefficient " + i + " of " + told, Long.signum(x.coefficient(i)), due);
            }
        }
    }

    @Says(promise = 0, words = "The value at -1, without its sign, is the number of directions without a ring, counted one by"
        + " one.")
    void valueAtMinusOne() {
        for (Colourmap x : Maps.samples()) {
            String told = Maps.text(x);
            int due = (int) ringless(Maps.joined(x));
            int sign = x.places() % 2 == 0 ? 1 : -1;
            check.same("value(-1) of " + told, x.value(-1), sign * due);
            check.same("directions of " + told, x.directions(), (long) due);
            check.same("tried of " + told, x.ways() > 10 ? due : x.tried(), due);
        }
    }

    /** Directions without a ring give the places an order; counted by the places to which no way leads. */
    private static long ringless(boolean[][] joined) {
        int all = (1 << joined.length) - 1;
        long[] found = new long[all + 1];
        found[0] = 1;
        for (int set = 1; set <= all; set++) {
            for (int first = set; first > 0; first = first - 1 & set) {
                if (areApart(joined, first)) {
                    found[set] += (Integer.bitCount(first) % 2 == 0 ? -1 : 1) * found[set & ~first];
                }
            }
        }
        return found[all];
    }

    private static boolean areApart(boolean[][] joined, int set) {
        for (int a = 0; a < joined.length; a++) {
            for (int b = 0; b < a; b++) {
                if (joined[a][b] && (set >> a & 1) != 0 && (set >> b & 1) != 0) {
                    return false;
                }
            }
        }
        return true;
    }

    @Says(promise = 0, words = "No value at a k from 1 on is less than that at k - 1.")
    void valuesNeverFall() {
        for (Colourmap x : Maps.samples()) {
            String map = Maps.text(x);
            for (int k : new int[] {1, 2, 3, 4, 5, 6, 7, 8, 9, 10, 46341, 65536, 1 << 21, MOST - 1, MOST}) {
                String told = k + " and one before of " + map;
                check.yes("compare " + told, x.compare(k, k - 1) >= 0);
                check.yes("compare back " + told, x.compare(k - 1, k) <= 0);
            }
        }
    }

    @Says(promise = 0, words = "The fewest colours are the least k, from 0 on, at which the value is above 0")
    void fewestByValues() {
        for (Colourmap x : Maps.samples()) {
            String told = Maps.text(x);
            for (int k = 0; k <= 10; k++) {
                check.same("sign(" + k + ") of " + told, x.sign(k), k < x.fewest() ? 0 : 1);
            }
        }
    }

    @Says(promise = 0, words = "two colours are enough just if no ring has an odd number of ways.")
    void twoColoursAndOddRings() {
        for (int many = 3; many <= 9; many++) {
            check.same("isTwo of a ring of " + many, Maps.ring(many).isTwo(), many % 2 == 0);
        }
        for (Colourmap x : Maps.samples()) {
            check.same("isTwo of " + Maps.text(x), x.isTwo(), !hasOddRing(Maps.joined(x)));
        }
    }

    private static boolean hasOddRing(boolean[][] joined) {
        for (int p = 0; p < joined.length; p++) {
            if (closesOdd(joined, p, p, 1 << p, 1)) {
                return true;
            }
        }
        return false;
    }

    /** Goes on from a place to places not yet in the row; looks whether a row of an odd length closes. */
    private static boolean closesOdd(boolean[][] joined, int first, int last, int row, int length) {
        if (length >= 3 && length % 2 == 1 && joined[last][first]) {
            return true;
        }
        for (int q = first + 1; q < joined.length; q++) {
            if (joined[last][q] && (row >> q & 1) == 0 && closesOdd(joined, first, q, row | 1 << q, length + 1)) {
                return true;
            }
        }
        return false;
    }

    @Says(promise = 0, words = "There are at most as many places as the fewest colours times the greatest number of places"
        + " apart")
    void placesByFewestAndApart() {
        for (Colourmap x : Maps.samples()) {
            check.yes("places of " + Maps.text(x), x.places() <= x.fewest() * x.apart());
        }
        check.same("just as many without places", new Colourmap().fewest() * new Colourmap().apart(), 0);
        check.same("just as many without ways", Maps.mapOf(9).fewest() * Maps.mapOf(9).apart(), 9);
        check.same("just as many with all ways", Maps.complete(9).fewest() * Maps.complete(9).apart(), 9);
        check.same("more in a ring of 9", Maps.ring(9).fewest() * Maps.ring(9).apart(), 12);
    }

    @Says(promise = 0, words = "there are no fewer colours than the greatest number of places together")
    void fewestByTogether() {
        for (Colourmap x : Maps.samples()) {
            check.yes("together of " + Maps.text(x), x.fewest() >= x.together());
        }
        check.same("just as many with all ways", Maps.complete(9).fewest(), Maps.complete(9).together());
        check.same("one more in a ring of 9", Maps.ring(9).fewest(), Maps.ring(9).together() + 1);
    }

    @Says(promise = 0, words = "the row colouring never has fewer colours than the fewest.")
    void rowByFewest() {
        for (Colourmap x : Maps.samples()) {
            int many = 0;
            for (int p = 0; p < x.places(); p++) {
                many = Math.max(many, x.colour(p) + 1);
            }
            check.yes("row colouring of " + Maps.text(x), many >= x.fewest());
        }
        check.same("more than the fewest", Maps.mapOf(4, "02", "23", "31").colour(3), 2);
        check.same("the fewest there", Maps.mapOf(4, "02", "23", "31").fewest(), 2);
    }

    @Says(promise = 0, words = "A way that is put twice, and two places that change their numbers, change no value.")
    void changesThatChangeNoValue() {
        for (Colourmap x : Maps.samples()) {
            boolean[][] joined = Maps.joined(x);
            String before = valuesOf(x);
            for (int a = 0; a < joined.length; a++) {
                for (int b = 0; b < joined.length; b++) {
                    Colourmap y = Maps.of(joined);
                    y.swap(a, b);
                    check.same("values of " + Maps.text(joined) + " after swap " + a + " " + b, valuesOf(y), before);
                    if (joined[a][b]) {
                        Colourmap z = Maps.of(joined);
                        z.way(a, b);
                        check.same("values of " + Maps.text(joined) + " after way " + a + " " + b, valuesOf(z), before);
                    }
                }
            }
        }
    }

    private static String valuesOf(Colourmap x) {
        StringBuilder text = new StringBuilder();
        for (int k : ANY) {
            text.append(x.round(k)).append(' ').append(x.bits(k)).append(' ').append(x.sign(k)).append(' ');
        }
        return text.toString();
    }

    // ---- map

    @Says(promise = 0, words = "There are at most 9 places, none at first, numbered from 0.")
    void atMostNinePlaces() {
        Colourmap x = new Colourmap();
        check.same("places at first", x.places(), 0);
        check.fails("degree(0) of none", INDEX, () -> x.degree(0));
        for (int many = 1; many <= 9; many++) {
            check.same("place", x.place(), many);
            check.same("degree of the last one", x.degree(many - 1), 0);
            check.fails("degree of one more", INDEX, () -> x.degree(x.places()));
        }
        check.fails("a tenth place", STATE, x::place);
        check.fails("a tenth place as a star", STATE, x::star);
        check.fails("ten places", ARGUMENT, () -> x.begin(10));
        x.keep();
        check.fails("eighteen places", STATE, x::beside);
        check.same("places at last", x.places(), 9);
    }

    @Says(promise = 0, words = "Between two different places there is a way or none; these two are its ends, and are"
        + " neighbours then.")
    void waysHaveTwoEnds() {
        for (int a = 0; a < 9; a++) {
            for (int b = 0; b < 9; b++) {
                Colourmap x = Maps.mapOf(9);
                if (a == b) {
                    check.no("isWay of a place and itself", Maps.complete(9).isWay(a, a));
                } else {
                    x.way(a, b);
                    check.same("ways", x.ways(), 1);
                    check.same("map", Maps.text(x), "9 " + Math.min(a, b) + Math.max(a, b));
                    check.same("degrees", x.degree(a) * x.degree(b), 1);
                    check.same("neighbour of the one", x.next(a, 0), b);
                    check.same("neighbour of the other one", x.next(b, 0), a);
                    check.same("left", x.tear(b, a), 0);
                }
            }
        }
    }

    @Says(promise = 0, words = "When a place goes, its ways go with it, and the places above it are numbered one less.")
    void placesAboveAreNumberedOneLess() {
        for (Colourmap x : Maps.samples()) {
            boolean[][] joined = Maps.joined(x);
            for (int p = 0; p < joined.length; p++) {
                Colourmap y = Maps.of(joined);
                y.leave(p);
                check.same(Maps.text(joined) + " without " + p, Maps.text(y), Maps.text(without(joined, p)));
                // What comes next has none of the ways of a place that went.
                y.place();
                check.same("a new place after " + p, y.degree(y.places() - 1), 0);
            }
        }
    }

    private static boolean[][] without(boolean[][] joined, int gone) {
        int many = joined.length - 1;
        boolean[][] made = new boolean[many][many];
        for (int a = 0; a < many; a++) {
            for (int b = 0; b < many; b++) {
                made[a][b] = joined[a < gone ? a : a + 1][b < gone ? b : b + 1];
            }
        }
        return made;
    }

    @Says(promise = 0, words = "There is a spare map likewise, with as many places and ways as it was given, none at first")
    void spareMapIsAsItWasGiven() {
        check.same("spare map at first", Maps.spareText(new Colourmap()), "0");
        for (Colourmap x : Maps.samples()) {
            String given = Maps.text(x);
            x.keep();
            x.begin(x.places() == 9 ? 0 : 9);
            check.same("spare map", Maps.spareText(x), given);
        }
    }

    @Says(promise = 0, words = "nothing but keep() and turn() changes it.")
    void nothingElseChangesTheSpareMap() {
        List<OfMap> calls = new ArrayList<>(List.of(
            x -> x.begin(9), x -> x.begin(0), x -> x.begin(10), Colourmap::place, Colourmap::star, x -> x.leave(0),
            x -> x.leave(9), x -> x.way(0, 2), x -> x.way(0, 0), x -> x.tear(0, 1), x -> x.tear(0, 2), x -> x.draw(0, 1),
            x -> x.draw(1, 1), x -> x.swap(0, 2), Colourmap::others, Colourmap::beside, Colourmap::places,
            Colourmap::ways, x -> x.isWay(0, 1), x -> x.degree(1), x -> x.next(1, 0), x -> x.previous(1, 2),
            Colourmap::mean, Colourmap::pieces, x -> x.piece(2), Colourmap::apart, Colourmap::together));
        calls.addAll(List.of(
            x -> x.partings(2), Colourmap::isTwo, Colourmap::fewest, x -> x.colour(2), x -> x.colourings(4),
            x -> x.coefficient(0), x -> x.value(3), x -> x.round(LEAST), x -> x.bits(LEAST), x -> x.sign(LEAST),
            x -> x.digit(LEAST, 9), x -> x.rest(LEAST, 7), x -> x.compare(LEAST, MOST), Colourmap::directions,
            Colourmap::tried, Colourmap::isTrue, Colourmap::checksum));
        check.same("calls", calls.size(), 44);
        for (int i = 0; i < calls.size(); i++) {
            for (Colourmap given : List.of(new Colourmap(), Maps.row(3), Maps.ring(6), Maps.complete(9))) {
                given.keep();
                String spare = Maps.text(given);
                given.begin(3);
                given.way(0, 1);
                given.way(1, 2);
                Check.outcome(oneCall(calls.get(i), given));
                check.same("spare map after call " + i, Maps.spareText(given), spare);
            }
        }
    }

    private static Check.Call oneCall(OfMap call, Colourmap x) {
        return () -> call.answer(x);
    }

    // ---- colours

    @Says(promise = 0, words = "A colouring with k colours gives each place one of k colours so that neighbours never have the"
        + " same; two are different if some place has another colour.")
    void colouringsAreDifferentByAPlace() {
        for (int k = 0; k <= 4; k++) {
            check.same("two places without a way, " + k, Maps.mapOf(2).colourings(k), k * k);
            check.same("two neighbours, " + k, Maps.row(2).colourings(k), k * (k - 1));
            check.same("three neighbours, " + k, Maps.ring(3).colourings(k), k * (k - 1) * (k - 2));
            check.same("nine places without ways, " + k, Maps.mapOf(9).colourings(k), (int) Math.round(Math.pow(k, 9)));
        }
    }

    @Says(promise = 0, words = "(Without places there is just one, with 0 colours, too.)")
    void oneColouringWithoutPlaces() {
        for (int k = 0; k <= 4; k++) {
            check.same("colourings(" + k + ")", new Colourmap().colourings(k), 1);
        }
        for (int k : ANY) {
            check.same("value(" + k + ")", new Colourmap().value(k), 1);
        }
        Colourmap emptied = Maps.complete(9);
        emptied.begin(0);
        check.same("colourings(0) when all places are gone", emptied.colourings(0), 1);
        check.same("value(0) when all places are gone", emptied.value(0), 1);
    }

    @Says(promise = 0, words = "There is just one polynomial in k, with whole coefficients, that gives for each k from 0 on the"
        + " number of colourings; its value at any whole k is the value at k.")
    void valuesByThePolynomial() {
        for (Colourmap x : Maps.samples()) {
            String told = " of " + Maps.text(x);
            long[] coefficients = Maps.coefficients(x);
            for (int k = 0; k <= 4; k++) {
                check.same("colourings by the polynomial at " + k + told,
                    Maps.exact(coefficients, k).intValueExact(), x.colourings(k));
            }
            for (int k : ANY) {
                check.same("round at " + k + told, x.round(k), Maps.exact(coefficients, k).longValue());
                check.same("sign at " + k + told, x.sign(k), Maps.exact(coefficients, k).signum());
            }
        }
    }

    @Says(promise = 0, words = "The row colouring gives the places, from 0 on, each the least colour, from 0 on, that no"
        + " neighbour with a lesser number has.")
    void rowColouring() {
        for (int p = 0; p < 9; p++) {
            check.same("colour of " + p + " with all ways", Maps.complete(9).colour(p), p);
            check.same("colour of " + p + " without ways", Maps.mapOf(9).colour(p), 0);
            check.same("colour of " + p + " in a row", Maps.row(9).colour(p), p % 2);
        }
        // A neighbour with a greater number does not count, so that the first place has the first colour.
        check.same("colour of the first", Maps.mapOf(3, "01", "02").colour(0), 0);
        // The neighbours of 4 have the colours 0, 1 and 3: the gap is taken.
        Colourmap gap = Maps.mapOf(7, "01", "02", "12", "03", "13", "23", "40", "41", "43");
        check.same("colour in the gap", gap.colour(4), 2);
        check.same("colour of a place without ways", gap.colour(6), 0);
    }

    // ---- sets

    @Says(promise = 0, words = "Two places are in the same piece if they are the same, or one comes from the one to the other"
        + " by ways.")
    void samePiece() {
        check.same("piece of a place alone", Maps.mapOf(1).piece(0), 0);
        check.same("pieces of a place alone", Maps.mapOf(1).pieces(), 1);
        check.same("piece of the last place alone", Maps.mapOf(9).piece(8), 8);
        String[] scrambled = {"84", "40", "07", "71", "15", "56", "63", "32"};
        for (int p = 0; p < 9; p++) {
            check.same("piece of " + p + " in a row", Maps.row(9).piece(p), 0);
            check.same("piece of " + p + " in a row in another order", Maps.mapOf(9, scrambled).piece(p), 0);
        }
        check.same("piece by two ways", Maps.mapOf(9, "86", "67").piece(8), 6);
    }

    @Says(promise = 0, words = "A ring is a row of at least three places, no two of them the same, in which each one but the"
        + " last is a neighbour of the next, and the last one of the first; it has as many ways as places.")
    void ringsHaveThreePlacesAtLeast() {
        // There and back by one way is no ring: not of two places, and not of one in between.
        check.same("directions of a way", Maps.row(2).directions(), 2L);
        check.same("tried of a way", Maps.row(2).tried(), 2);
        check.yes("isTwo of a way", Maps.row(2).isTwo());
        check.yes("isTwo of two ways", Maps.row(3).isTwo());
        check.same("tried of two ways", Maps.row(3).tried(), 4);
        check.no("isTwo of a ring of three", Maps.ring(3).isTwo());
        check.same("tried of a ring of three", Maps.ring(3).tried(), 6);
        check.no("isTwo of a ring of nine", Maps.ring(9).isTwo());
        check.same("tried of a ring of nine", Maps.ring(9).tried(), 510);
        check.yes("isTwo of a ring of eight", Maps.ring(8).isTwo());
        // Two rings of three at one place: to go round both takes six ways, but that place twice.
        Colourmap two = Maps.mapOf(5, "01", "12", "20", "23", "34", "42");
        check.no("isTwo of two rings", two.isTwo());
        check.same("tried of two rings", two.tried(), 36);
    }

    @Says(promise = 0, words = "Places are apart if no two of them are neighbours, together if each two of them are.")
    void apartAndTogether() {
        check.same("apart of none", new Colourmap().apart(), 0);
        check.same("together of none", new Colourmap().together(), 0);
        check.same("apart of one", Maps.mapOf(1).apart(), 1);
        check.same("together of one", Maps.mapOf(1).together(), 1);
        check.same("apart of two without a way", Maps.mapOf(2).apart(), 2);
        check.same("together of two without a way", Maps.mapOf(2).together(), 1);
        check.same("apart of two neighbours", Maps.row(2).apart(), 1);
        check.same("together of two neighbours", Maps.row(2).together(), 2);
        // Three in a row are neither: the ends are apart, each way's ends are together.
        check.same("apart of a row", Maps.row(3).apart(), 2);
        check.same("together of a row", Maps.row(3).together(), 2);
    }

    @Says(promise = 0, words = "A parting into j sets puts each place into one of j sets, none of them empty, so that"
        + " neighbours are never in the same one; the sets have no order.")
    void partingsHaveNoEmptySet() {
        check.same("one place into no set", Maps.mapOf(1).partings(0), 0);
        check.same("one place into one set", Maps.mapOf(1).partings(1), 1);
        check.same("one place into two sets", Maps.mapOf(1).partings(2), 0);
        check.same("two places into one set", Maps.mapOf(2).partings(1), 1);
        check.same("two neighbours into one set", Maps.row(2).partings(1), 0);
        check.same("two neighbours into two sets, without an order", Maps.row(2).partings(2), 1);
        check.same("nine places into eight sets", Maps.mapOf(9).partings(8), 36);
        check.same("nine places into nine sets, without an order", Maps.mapOf(9).partings(9), 1);
        check.same("no place into one set", new Colourmap().partings(1), 0);
    }

    // ---- directions

    @Says(promise = 0, words = "A direction gives each way one of its ends as the one to which it leads.")
    void directionsOfWaysInARow() {
        for (int many = 1; many <= 9; many++) {
            check.same("tried of a row of " + many, Maps.row(many).tried(), 1 << many - 1);
            check.same("directions of a row of " + many, Maps.row(many).directions(), 1L << many - 1);
        }
        check.same("tried of none", new Colourmap().tried(), 1);
        check.same("directions of none", new Colourmap().directions(), 1L);
    }

    @Says(promise = 0, words = "It is without a ring if there is no ring in which, from each place of it, the way to the next"
        + " one (from the last one that to the first) leads there.")
    void directionsOfRings() {
        for (int many = 3; many <= 9; many++) {
            // Of all directions just the two round and round are left out.
            check.same("tried of a ring of " + many, Maps.ring(many).tried(), (1 << many) - 2);
            check.same("directions of a ring of " + many, Maps.ring(many).directions(), (1L << many) - 2);
        }
        check.same("tried of two rings with a way in common", Maps.mapOf(4, "01", "12", "20", "13", "32").tried(), 18);
        check.same("tried of a ring that comes last", Maps.mapOf(9, "01", "12", "67", "78", "86").tried(), 24);
    }

    // ---- exceptions

    @Says(promise = 0, words = "A method that throws an exception changes nothing.")
    void exceptionsChangeNothing() {
        Map<String, OfMap> calls = new TreeMap<>();
        calls.put("begin", x -> x.begin(10));
        calls.put("place", Colourmap::place);
        calls.put("star", Colourmap::star);
        calls.put("leave", x -> x.leave(9));
        calls.put("way, no place", x -> x.way(0, 9));
        calls.put("way, the same", x -> x.way(8, 8));
        calls.put("tear, no place", x -> x.tear(-1, 0));
        calls.put("tear, no way", x -> x.tear(0, 8));
        calls.put("draw, no place", x -> x.draw(8, 9));
        calls.put("draw, the same", x -> x.draw(0, 0));
        calls.put("swap", x -> x.swap(0, 9));
        calls.put("beside", Colourmap::beside);
        calls.put("isWay", x -> x.isWay(9, 0));
        calls.put("degree", x -> x.degree(9));
        calls.put("next", x -> x.next(0, -1));
        calls.put("previous", x -> x.previous(0, -2));
        calls.put("piece", x -> x.piece(9));
        calls.put("partings", x -> x.partings(10));
        calls.put("colour", x -> x.colour(9));
        calls.put("colourings", x -> x.colourings(5));
        calls.put("coefficient", x -> x.coefficient(10));
        calls.put("value", x -> x.value(LEAST));
        calls.put("digit", x -> x.digit(LEAST, 100));
        calls.put("rest", x -> x.rest(LEAST, 0));
        calls.put("tried", Colourmap::tried);
        Supplier<Colourmap> maker = TermsTest::fullMap;
        for (Map.Entry<String, OfMap> call : calls.entrySet()) {
            lookAtRefused(call.getKey(), maker, call.getValue());
        }
        lookAtRefused("mean", TermsTest::emptyMap, Colourmap::mean);
    }

    /** Nine places with all ways but one, and a spare map with one place. */
    private static Colourmap fullMap() {
        Colourmap x = Maps.mapOf(1);
        x.keep();
        x.begin(9);
        for (int a = 0; a < 9; a++) {
            for (int b = a + 1; b < (a == 0 ? 8 : 9); b++) {
                x.way(a, b);
            }
        }
        return x;
    }

    private static Colourmap emptyMap() {
        Colourmap x = Maps.ring(3);
        x.keep();
        x.begin(0);
        return x;
    }

    private void lookAtRefused(String told, Supplier<Colourmap> maker, OfMap call) {
        Colourmap x = maker.get();
        Object outcome = Check.outcome(() -> call.answer(x));
        check.yes(told + " throws", outcome.toString().startsWith("throws."));
        check.same(told + ": checksum", x.checksum(), maker.get().checksum());
        check.same(told + ": map", Maps.text(x), Maps.text(maker.get()));
        check.same(told + ": spare map", Maps.spareText(x), Maps.spareText(maker.get()));
    }

    @Says(promise = 0, words = "If several exceptions apply, the one that is documented first is thrown.")
    void theFirstExceptionIsThrown() {
        for (int many = 0; many <= 9; many++) {
            for (int p : new int[] {LEAST, -1, many, MOST}) {
                Colourmap x = Maps.complete(many);
                // No such place, and both are the same; no such place, and no way between them.
                check.fails("way(" + p + ", the same) of " + many, INDEX, () -> x.way(p, p));
                check.fails("draw(" + p + ", the same) of " + many, INDEX, () -> x.draw(p, p));
                check.fails("tear(" + p + ", the same) of " + many, INDEX, () -> x.tear(p, p));
                check.fails("tear(0, " + p + ") of " + many, INDEX, () -> x.tear(0, p));
                check.fails("tear(" + p + ", 0) of " + many, INDEX, () -> x.tear(p, 0));
            }
        }
    }
}
