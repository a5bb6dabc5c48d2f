import java.math.BigInteger;
import java.util.ArrayList;
import java.util.List;

/** The sentences of the promises 29 to 41: how many colourings and directions there are, and what is told of all. */
public final class ValuesSentencesTest extends Sentences {
    /** Any numbers: the ends of int, those about 0, about the powers of 2, and about the roots of the greatest int. */
    private static final int[] ANY = {
        LEAST, LEAST + 1, -1_000_000_007, -(1 << 21), -65536, -46341, -1291, -1290, -17, -10, -9, -8, -2, -1, 0, 1, 2, 3, 4,
        7, 8, 9, 10, 11, 1290, 1291, 46340, 46341, 65535, 65536, 1 << 16, 1 << 21, 1 << 30, 1_000_000_007, MOST - 1, MOST};
    private static final BigInteger ROUND = BigInteger.ONE.shiftLeft(64);

    public static void main(String[] args) throws IllegalAccessException {
        new ValuesSentencesTest().run();
    }

    /** Looks at each of the samples at any number; a new object each time, so that none is asked too often. */
    private interface Look {
        void at(String told, Colourmap x, int k, BigInteger value);
    }

    private static void atAnyNumber(Look look) {
        for (Colourmap x : Maps.samples()) {
            boolean[][] joined = Maps.joined(x);
            String text = Maps.text(joined);
            long[] coefficients = Maps.coefficients(x);
            for (int k : ANY) {
                look.at("at " + k + " of " + text, Maps.of(joined), k, Maps.exact(coefficients, k));
            }
        }
    }

    // ---- 29: colourings

    @Says(promise = 29, words = "Counts the colourings one by one.")
    void colouringsOneByOne() {
        for (Colourmap x : Maps.samples()) {
            boolean[][] joined = Maps.joined(x);
            for (int k = 0; k <= 4; k++) {
                check.same("colourings(" + k + ") of " + Maps.text(joined), x.colourings(k),
                    (int) Maps.colourings(joined, k));
            }
        }
    }

    @Says(promise = 29, words = "- `k`: with how many colours, 0 to 4")
    void colouringsWithNoneToFour() {
        int[] nine = {0, 1, 512, 19683, 262144};
        int[] row = {0, 0, 2, 768, 26244};
        int[] four = {0, 0, 0, 0, 24};
        for (int i = 0; i <= 4; i++) {
            int k = i;
            check.same("without places, " + k, Check.outcome(() -> new Colourmap().colourings(k)), 1);
            check.same("one place, " + k, Check.outcome(() -> Maps.mapOf(1).colourings(k)), k);
            check.same("nine without ways, " + k, Check.outcome(() -> Maps.mapOf(9).colourings(k)), nine[k]);
            check.same("a row of nine, " + k, Check.outcome(() -> Maps.row(9).colourings(k)), row[k]);
            check.same("four with all ways, " + k, Check.outcome(() -> Maps.complete(4).colourings(k)), four[k]);
            check.same("five with all ways, " + k, Check.outcome(() -> Maps.complete(5).colourings(k)), 0);
        }
    }

    @Says(promise = 29, words = "Throws `IllegalArgumentException` if k is out of range")
    void colouringsOutOfRange() {
        for (int k : new int[] {LEAST, -5, -1, 5, 6, 9, 32, MOST}) {
            refused("colourings(" + k + ")", ARGUMENT, Colourmap::new, x -> x.colourings(k));
            refused("colourings(" + k + ")", ARGUMENT, () -> Maps.complete(9), x -> x.colourings(k));
        }
    }

    // ---- 30: coefficient

    @Says(promise = 30, words = "Returns a coefficient of the polynomial.")
    void coefficientsOfKnownMaps() {
        check.same("of none", told(Maps.coefficients(new Colourmap())), " 1");
        check.same("of one", told(Maps.coefficients(Maps.mapOf(1))), " 0 1");
        check.same("of nine without ways", told(Maps.coefficients(Maps.mapOf(9))), " 0 0 0 0 0 0 0 0 0 1");
        check.same("of nine with all ways", told(Maps.coefficients(Maps.complete(9))),
            " 0 40320 -109584 118124 -67284 22449 -4536 546 -36 1");
        check.same("of a row of nine", told(Maps.coefficients(Maps.row(9))), " 0 1 -8 28 -56 70 -56 28 -8 1");
        check.same("of a ring of nine", told(Maps.coefficients(Maps.ring(9))), " 0 8 -36 84 -126 126 -84 36 -9 1");
        Colourmap x = Maps.complete(9);
        x.coefficient(9);
        x.tear(0, 1);
        check.same("after a change", x.coefficient(8), -35L);
    }

    private static String told(long[] numbers) {
        StringBuilder text = new StringBuilder();
        for (long number : numbers) {
            text.append(' ').append(number);
        }
        return text.toString();
    }

    @Says(promise = 30, words = "- `power`: of which power of k, 0 to the number of places")
    void coefficientsFrom0ToTheNumberOfPlaces() {
        for (int many = 0; many <= 9; many++) {
            Colourmap x = Maps.mapOf(many);
            for (int i = 0; i <= many; i++) {
                int power = i;
                check.same("coefficient(" + i + ") of " + many, Check.outcome(() -> x.coefficient(power)),
                    i == many ? 1L : 0L);
            }
        }
    }

    @Says(promise = 30, words = "Throws `IndexOutOfBoundsException` if power is out of range")
    void coefficientOutOfRange() {
        for (int many = 0; many <= 9; many++) {
            int places = many;
            for (int power : new int[] {LEAST, -10, -1, many + 1, Math.max(many + 1, 9), 10, 11, 32, MOST}) {
                refused("coefficient(" + power + ")", INDEX, () -> Maps.complete(places), x -> x.coefficient(power));
            }
        }
        // What more places had is out of range when they are gone.
        refused("coefficient(9)", INDEX, ValuesSentencesTest::eightOfNine, x -> x.coefficient(9));
    }

    private static Colourmap eightOfNine() {
        Colourmap x = Maps.complete(9);
        x.coefficient(9);
        x.leave(8);
        return x;
    }

    // ---- 31: value

    @Says(promise = 31, words = "Returns the value at a number, as far as an int has room.")
    void valueAtTheEndsOfInt() {
        check.same("the greatest int", Check.outcome(() -> Maps.mapOf(1).value(MOST)), MOST);
        check.same("the least int", Check.outcome(() -> Maps.mapOf(1).value(LEAST)), LEAST);
        check.same("the greatest square", Check.outcome(() -> Maps.mapOf(2).value(46340)), 2147395600);
        check.same("the greatest square, by -46340", Check.outcome(() -> Maps.mapOf(2).value(-46340)), 2147395600);
        check.same("the greatest of a way", Check.outcome(() -> Maps.row(2).value(46341)), 2147441940);
        check.same("the greatest of a way, by -46340", Check.outcome(() -> Maps.row(2).value(-46340)), 2147441940);
        check.same("the least third power", Check.outcome(() -> Maps.mapOf(3).value(-1290)), -2146689000);
        check.same("the least of a ring of three", Check.outcome(() -> Maps.ring(3).value(-1289)), -2146687710);
        check.same("2 to the power of 30", Check.outcome(() -> Maps.mapOf(2).value(1 << 15)), 1 << 30);
    }

    @Says(promise = 31, words = "- `k`: any number")
    void valueAtAnyNumber() {
        atAnyNumber((told, x, k, value) -> {
            boolean isInt = value.bitLength() <= 31;
            Object due = isInt ? (Object) value.intValue() : "throws.ArithmeticException";
            check.same(told, Check.outcome(() -> x.value(k)), due);
        });
    }

    @Says(promise = 31, words = "Throws `ArithmeticException` if the value is not an int")
    void valueIsNoInt() {
        noInt("46341, squared", 2, 46341);
        noInt("-46341, squared", 2, -46341);
        noInt("1291, to the power of three", 3, 1291);
        noInt("-1291, to the power of three", 3, -1291);
        // The lower binary digits of these are those of ints, such as 0.
        noInt("2 to the power of 32", 2, 65536);
        noInt("2 to the power of 32, by -65536", 2, -65536);
        noInt("2 to the power of 64", 4, 65536);
        noInt("2 to the power of 63", 3, 1 << 21);
        noInt("-2 to the power of 63", 3, -(1 << 21));
        noInt("2 to the power of 62", 2, LEAST);
        noInt("-2 to the power of 93", 3, LEAST);
        noInt("-2 to the power of 279", 9, LEAST);
        noInt("2 to the power of 248", 8, LEAST);
        refused("value(most)", ARITHMETIC, () -> Maps.complete(9), x -> x.value(MOST));
        refused("value(least)", ARITHMETIC, () -> Maps.complete(9), x -> x.value(LEAST));
        refused("value(46342) of a way", ARITHMETIC, () -> Maps.row(2), x -> x.value(46342));
        refused("value(-46341) of a way", ARITHMETIC, () -> Maps.row(2), x -> x.value(-46341));
        refused("value(-1290) of a ring of three", ARITHMETIC, () -> Maps.ring(3), x -> x.value(-1290));
    }

    private void noInt(String told, int places, int k) {
        refused("value(" + k + "), " + told, ARITHMETIC, () -> Maps.mapOf(places), x -> x.value(k));
    }

    // ---- 32: round

    @Says(promise = 32, words = "Returns the value at a number as a long that goes round: that one which differs from it by a"
        + " multiple of 2 to the power of 64.")
    void roundGoesRound() {
        check.same("2 to the power of 62", Maps.mapOf(2).round(LEAST), 1L << 62);
        check.same("2 to the power of 63", Maps.mapOf(3).round(1 << 21), Long.MIN_VALUE);
        check.same("-2 to the power of 63", Maps.mapOf(3).round(-(1 << 21)), Long.MIN_VALUE);
        check.same("2 to the power of 64", Maps.mapOf(4).round(65536), 0L);
        check.same("-2 to the power of 93", Maps.mapOf(3).round(LEAST), 0L);
        check.same("-2 to the power of 279", Maps.mapOf(9).round(LEAST), 0L);
        // 2097152 squared times 2097151 is just below 2 to the power of 63; with -2097152 and -2097153 it is just above.
        check.same("just below 2 to the power of 63", Maps.mapOf(3, "01").round(1 << 21), Long.MAX_VALUE - (1L << 42) + 1);
        check.same("just below -2 to the power of 63", Maps.mapOf(3, "01").round(-(1 << 21)), Long.MAX_VALUE - (1L << 42) + 1);
        atAnyNumber((told, x, k, value) -> {
            BigInteger apart = value.subtract(BigInteger.valueOf(x.round(k)));
            check.same(told, apart.mod(ROUND), BigInteger.ZERO);
        });
    }

    @Says(promise = 32, words = "- `k`: any number")
    void roundAtAnyNumber() {
        for (int k : ANY) {
            check.same("round(" + k + ") of none", new Colourmap().round(k), 1L);
            check.same("round(" + k + ") of one", Maps.mapOf(1).round(k), (long) k);
            check.same("round(" + k + ") of two", Maps.mapOf(2).round(k), (long) k * k);
            check.same("round(" + k + ") of a way", Maps.row(2).round(k), (long) k * (k - 1L));
        }
    }

    // ---- 33: bits

    @Says(promise = 33, words = "Returns how many binary digits the value at a number has, without its sign.")
    void bitsWithoutTheSign() {
        for (int i = 0; i <= 30; i++) {
            int power = 1 << i;
            check.same("bits of 2 to the power of " + i, Maps.mapOf(1).bits(power), i + 1);
            check.same("bits of -2 to the power of " + i, Maps.mapOf(1).bits(-power), i + 1);
            check.same("bits of one less", Maps.mapOf(1).bits(power - 1), i);
            check.same("bits of one more below 0", Maps.mapOf(1).bits(1 - power), i);
            for (int places = 2; places <= 9; places++) {
                check.same("bits of 2 to the power of " + i * places, Maps.mapOf(places).bits(power), i * places + 1);
                check.same("bits of it by " + -power, Maps.mapOf(places).bits(-power), i * places + 1);
            }
        }
        check.same("the most there are", Maps.mapOf(9).bits(LEAST), 280);
        check.same("the most with all ways", Maps.complete(9).bits(LEAST), 280);
        check.same("the most above 0", Maps.mapOf(9).bits(MOST), 279);
    }

    @Says(promise = 33, words = "- `k`: any number")
    void bitsAtAnyNumber() {
        atAnyNumber((told, x, k, value) -> check.same(told, x.bits(k), value.abs().bitLength()));
    }

    @Says(promise = 33, words = "Returns how many; 0 for 0.")
    void bitsOf0() {
        for (int many = 1; many <= 9; many++) {
            check.same("bits(0) of " + many, Maps.mapOf(many).bits(0), 0);
            for (int k = 0; k < many; k++) {
                check.same("bits(" + k + ") of " + many + " with all ways", Maps.complete(many).bits(k), 0);
            }
            check.yes("bits of more", Maps.complete(many).bits(many) > 0);
        }
        check.same("bits(0) of none", new Colourmap().bits(0), 1);
        check.same("bits of 1", Maps.mapOf(1).bits(1), 1);
        check.same("bits of -1", Maps.mapOf(1).bits(-1), 1);
    }

    // ---- 34: sign

    @Says(promise = 34, words = "- `k`: any number")
    void signAtAnyNumber() {
        atAnyNumber((told, x, k, value) -> check.same(told, x.sign(k), value.signum()));
    }

    @Says(promise = 34, words = "Returns -1, 0 or 1.")
    void signsOfSmallAndGreatValues() {
        for (int many = 1; many <= 9; many++) {
            int odd = many % 2 == 0 ? 1 : -1;
            check.same("sign(0) of " + many, Maps.mapOf(many).sign(0), 0);
            check.same("sign(1) of " + many, Maps.mapOf(many).sign(1), 1);
            check.same("sign(-1) of " + many, Maps.mapOf(many).sign(-1), odd);
            // The lower binary digits of these values are all 0.
            check.same("sign(65536) of " + many, Maps.mapOf(many).sign(65536), 1);
            check.same("sign(-65536) of " + many, Maps.mapOf(many).sign(-65536), odd);
            check.same("sign(least) of " + many, Maps.mapOf(many).sign(LEAST), odd);
            check.same("sign(most) of " + many, Maps.mapOf(many).sign(MOST), 1);
            check.same("sign of one too few colours", Maps.complete(many).sign(many - 1), 0);
            check.same("sign of just enough colours", Maps.complete(many).sign(many), 1);
        }
        check.same("sign(0) of none", new Colourmap().sign(0), 1);
    }

    // ---- 35: digit

    @Says(promise = 35, words = "Returns a decimal digit of the value at a number, without its sign.")
    void digitsWithoutTheSign() {
        int[] due = {8, 4, 6, 3, 8, 4, 7, 4, 1, 2};
        for (int i = 0; i < due.length; i++) {
            check.same("digit(least, " + i + ")", Maps.mapOf(1).digit(LEAST, i), due[i]);
        }
        check.same("the last digit of -1", Maps.mapOf(1).digit(-1, 0), 1);
        check.same("the last digit of -19", Maps.mapOf(1).digit(-19, 0), 9);
        check.same("the first digit of -19", Maps.mapOf(1).digit(-19, 1), 1);
    }

    @Says(promise = 35, words = "- `k`: any number")
    void digitsAtAnyNumber() {
        atAnyNumber((told, x, k, value) -> {
            String digits = value.abs().toString();
            StringBuilder found = new StringBuilder();
            for (int i = digits.length() - 1; i >= 0; i--) {
                found.append(x.digit(k, i));
            }
            check.same(told, found.toString(), digits);
        });
    }

    @Says(promise = 35, words = "- `index`: 0 for the last digit, up to 99")
    void digitsFrom0To99() {
        String digits = Maps.falling(LEAST, 9).abs().toString();
        check.same("digits of the greatest value", digits.length(), 84);
        for (int i = 0; i <= 99; i++) {
            int index = i;
            Object due = i < 84 ? digits.charAt(83 - i) - '0' : 0;
            check.same("digit(least, " + i + ")", Check.outcome(() -> Maps.complete(9).digit(LEAST, index)), due);
            check.same("digit " + i + " of 7", Check.outcome(() -> Maps.mapOf(1).digit(7, index)), i == 0 ? 7 : 0);
        }
        for (int i = 0; i <= 81; i++) {
            check.same("digit " + i + " of 10 to the power of 81", Maps.mapOf(9).digit(1_000_000_000, i), i == 81 ? 1 : 0);
        }
    }

    @Says(promise = 35, words = "Returns the digit; 0 ahead of the first one.")
    void digitsAheadOfTheFirst() {
        for (int i = 0; i <= 99; i++) {
            check.same("digit " + i + " of 0", Maps.mapOf(1).digit(0, i), 0);
            check.same("digit " + i + " of 1", new Colourmap().digit(0, i), i == 0 ? 1 : 0);
            check.same("digit " + i + " of -9", Maps.mapOf(1).digit(-9, i), i == 0 ? 9 : 0);
            check.same("digit " + i + " of 999", Maps.mapOf(1).digit(999, i), i < 3 ? 9 : 0);
            check.same("digit " + i + " of -1000", Maps.mapOf(3).digit(-10, i), i == 3 ? 1 : 0);
            if (i >= 84) {
                check.same("digit " + i + " of the greatest value", Maps.mapOf(9).digit(LEAST, i), 0);
            }
        }
        check.same("the first digit of the greatest value", Maps.mapOf(9).digit(LEAST, 83), 9);
    }

    @Says(promise = 35, words = "Throws `IndexOutOfBoundsException` if index is out of range")
    void digitOutOfRange() {
        for (int index : new int[] {LEAST, -100, -1, 100, 101, 128, MOST}) {
            for (int k : new int[] {LEAST, -1, 0, 1, MOST}) {
                refused("digit(" + k + ", " + index + ")", INDEX, Colourmap::new, x -> x.digit(k, index));
                refused("digit(" + k + ", " + index + ")", INDEX, () -> Maps.complete(9), x -> x.digit(k, index));
            }
        }
    }

    // ---- 36: rest

    @Says(promise = 36, words = "- `k`: any number")
    void restAtAnyNumber() {
        atAnyNumber((told, x, k, value) -> {
            for (int by : new int[] {1, 2, 3, 7, 10, 1 << 16, 1_000_003, 1 << 30, MOST - 1, MOST}) {
                check.same("by " + by + " " + told, x.rest(k, by), value.mod(BigInteger.valueOf(by)).intValueExact());
            }
        });
    }

    @Says(promise = 36, words = "- `by`: the number by which it is divided")
    void restByAnyNumber() {
        check.same("of 7 by 1", Check.outcome(() -> Maps.mapOf(1).rest(7, 1)), 0);
        check.same("of 7 by 2", Check.outcome(() -> Maps.mapOf(1).rest(7, 2)), 1);
        check.same("of 7 by 7", Check.outcome(() -> Maps.mapOf(1).rest(7, 7)), 0);
        check.same("of 7 by 8", Check.outcome(() -> Maps.mapOf(1).rest(7, 8)), 7);
        check.same("of 7 by the greatest", Check.outcome(() -> Maps.mapOf(1).rest(7, MOST)), 7);
        check.same("of the greatest by itself", Check.outcome(() -> Maps.mapOf(1).rest(MOST, MOST)), 0);
        check.same("of the greatest by one less", Check.outcome(() -> Maps.mapOf(1).rest(MOST, MOST - 1)), 1);
    }

    @Says(promise = 36, words = "Returns the number from 0 to by - 1 that differs from the value by a multiple of by.")
    void restIsFrom0ToByLessOne() {
        check.same("of -1 by 7", Maps.mapOf(1).rest(-1, 7), 6);
        check.same("of -7 by 7", Maps.mapOf(1).rest(-7, 7), 0);
        check.same("of -8 by 7", Maps.mapOf(1).rest(-8, 7), 6);
        check.same("of 0 by 7", Maps.mapOf(1).rest(0, 7), 0);
        check.same("of 6 by 7", Maps.mapOf(1).rest(6, 7), 6);
        check.same("of -1 by the greatest", Maps.mapOf(1).rest(-1, MOST), MOST - 1);
        check.same("of the least by the greatest", Maps.mapOf(1).rest(LEAST, MOST), MOST - 1);
        check.same("of the least by 1", Maps.mapOf(9).rest(LEAST, 1), 0);
        check.same("of 1 by 1", new Colourmap().rest(LEAST, 1), 0);
        check.same("of 1 by 2", new Colourmap().rest(LEAST, 2), 1);
        for (int by = 1; by <= 40; by++) {
            for (int k = -40; k <= 40; k++) {
                check.same("of " + k + " by " + by, Maps.mapOf(1).rest(k, by), ((k % by) + by) % by);
            }
        }
    }

    @Says(promise = 36, words = "Throws `ArithmeticException` if by is below 1")
    void restByNoNumber() {
        for (int by : new int[] {LEAST, LEAST + 1, -7, -1, 0}) {
            for (int k : new int[] {LEAST, -1, 0, 1, MOST}) {
                refused("rest(" + k + ", " + by + ")", ARITHMETIC, Colourmap::new, x -> x.rest(k, by));
                refused("rest(" + k + ", " + by + ")", ARITHMETIC, () -> Maps.complete(9), x -> x.rest(k, by));
            }
        }
    }

    // ---- 37: compare

    @Says(promise = 37, words = "Compares the values at two numbers.")
    void comparesAnyTwo() {
        for (Colourmap x : Maps.samples()) {
            boolean[][] joined = Maps.joined(x);
            long[] coefficients = Maps.coefficients(x);
            for (int k : ANY) {
                Colourmap y = Maps.of(joined);
                BigInteger value = Maps.exact(coefficients, k);
                for (int other : ANY) {
                    check.same("compare(" + k + ", " + other + ") of " + Maps.text(joined), y.compare(k, other),
                        value.compareTo(Maps.exact(coefficients, other)));
                }
            }
        }
    }

    @Says(promise = 37, words = "Returns -1 if the value at the first one is less, 1 if it is greater, 0 if both are the same.")
    void compareReturnsOneOfThree() {
        for (int many = 1; many <= 9; many += 2) {
            check.same("the ends of int of " + many, Maps.mapOf(many).compare(LEAST, MOST), -1);
            check.same("the ends of int, the other way round", Maps.mapOf(many).compare(MOST, LEAST), 1);
            check.same("the least and the next", Maps.mapOf(many).compare(LEAST, LEAST + 1), -1);
            check.same("the greatest and the one before", Maps.mapOf(many).compare(MOST, MOST - 1), 1);
        }
        check.same("the ends of int of two", Maps.mapOf(2).compare(LEAST, MOST), 1);
        check.same("the ends of int of eight", Maps.mapOf(8).compare(MOST, LEAST), -1);
        for (int k : ANY) {
            check.same("the same number " + k, Maps.complete(9).compare(k, k), 0);
            check.same("without places " + k, new Colourmap().compare(k, MOST), 0);
        }
        check.same("the same value of other numbers", Maps.mapOf(2).compare(-46341, 46341), 0);
        check.same("the same value 0", Maps.complete(9).compare(0, 8), 0);
        check.same("0 and more", Maps.complete(9).compare(8, 9), -1);
        check.same("more and 0", Maps.complete(9).compare(9, 8), 1);
        check.same("below 0 and 0", Maps.mapOf(1).compare(-1, 0), -1);
        check.same("0 and below 0", Maps.mapOf(1).compare(0, -1), 1);
        // The lower 64 binary digits of both values are the same.
        check.same("2 to the power of 64 and 0", Maps.mapOf(4).compare(65536, 0), 1);
        check.same("0 and 2 to the power of 64", Maps.mapOf(4).compare(0, 65536), -1);
    }

    // ---- 38: directions

    @Says(promise = 38, words = "Returns how many directions there are without a ring, by the value at -1.")
    void directionsFromOneToAll() {
        check.same("of none", new Colourmap().directions(), 1L);
        check.same("of one", Maps.mapOf(1).directions(), 1L);
        check.same("of nine without ways", Maps.mapOf(9).directions(), 1L);
        long product = 1;
        for (int many = 1; many <= 9; many++) {
            product *= many;
            check.same("of " + many + " with all ways", Maps.complete(many).directions(), product);
            check.same("by the value", Maps.complete(many).value(-1), (int) (many % 2 == 0 ? product : -product));
        }
        atAnyNumber((told, x, k, value) -> check.same(told, x.directions(), Math.abs(x.round(-1))));
    }

    // ---- 39: tried

    @Says(promise = 39, words = "Counts the directions without a ring one by one.")
    void triedOneByOne() {
        check.same("of none", new Colourmap().tried(), 1);
        check.same("of nine without ways", Maps.mapOf(9).tried(), 1);
        check.same("of one way", Maps.mapOf(9, "08").tried(), 2);
        for (Colourmap x : Maps.samples()) {
            if (x.ways() <= 10) {
                boolean[][] joined = Maps.joined(x);
                check.same("of " + Maps.text(joined), x.tried(), ringless(joined));
            }
        }
    }

    /** Tries each direction: it is without a ring if the places can be left one by one, each when no way leads on. */
    private static int ringless(boolean[][] joined) {
        List<int[]> ways = new ArrayList<>();
        for (int a = 0; a < joined.length; a++) {
            for (int b = 0; b < a; b++) {
                if (joined[a][b]) {
                    ways.add(new int[] {a, b});
                }
            }
        }
        int found = 0;
        for (int set = 0; set < 1 << ways.size(); set++) {
            boolean[][] comes = new boolean[joined.length][joined.length];
            for (int i = 0; i < ways.size(); i++) {
                int from = ways.get(i)[set >> i & 1];
                int to = ways.get(i)[1 - (set >> i & 1)];
                comes[from][to] = true;
            }
            found += comesBack(comes) ? 0 : 1;
        }
        return found;
    }

    private static boolean comesBack(boolean[][] comes) {
        boolean back = false;
        for (int by = 0; by < comes.length; by++) {
            for (int a = 0; a < comes.length; a++) {
                for (int b = 0; b < comes.length; b++) {
                    comes[a][b] |= comes[a][by] && comes[by][b];
                }
            }
        }
        for (int p = 0; p < comes.length; p++) {
            back |= comes[p][p];
        }
        return back;
    }

    @Says(promise = 39, words = "Throws `UnsupportedOperationException` if there are more than 10 ways")
    void triedWithTenWaysAndEleven() {
        check.same("ten ways of five places", Check.outcome(() -> Maps.complete(5).tried()), 120);
        check.same("ten ways of nine places", Check.outcome(() -> ringAnd("04").tried()), 930);
        for (int ways = 0; ways <= 36; ways++) {
            int many = ways;
            if (ways > 10) {
                refused("tried() with " + ways, UNSUPPORTED, () -> nineWith(many), Colourmap::tried);
            } else {
                check.same("tried() with " + ways, Check.outcome(() -> nineWith(many).tried()),
                    ringless(Maps.joined(nineWith(many))));
            }
        }
        refused("tried() with 11", UNSUPPORTED, () -> ringAnd("04", "26"), Colourmap::tried);
        Colourmap x = ringAnd("04", "26");
        x.tear(2, 6);
        check.same("ten ways again", Check.outcome(x::tried), 930);
    }

    private static Colourmap ringAnd(String... ways) {
        Colourmap x = Maps.ring(9);
        for (String way : ways) {
            x.way(way.charAt(0) - '0', way.charAt(1) - '0');
        }
        return x;
    }

    private static Colourmap nineWith(int ways) {
        Colourmap x = Maps.mapOf(9);
        int left = ways;
        for (int a = 8; a >= 0; a--) {
            for (int b = 0; b < a && left > 0; b++) {
                x.way(a, b);
                left--;
            }
        }
        return x;
    }

    // ---- 40: isTrue

    @Says(promise = 40, words = "what it tells of the coefficients")
    void isTrueOfTheCoefficients() {
        // Without places there is no next lower coefficient; without ways only the highest is not 0.
        check.yes("of none", new Colourmap().isTrue());
        for (int many = 1; many <= 9; many++) {
            check.yes("of " + many + " without ways", Maps.mapOf(many).isTrue());
            check.yes("of " + many + " with all ways", Maps.complete(many).isTrue());
        }
    }

    @Says(promise = 40, words = "that the values at 0 to 3 are the numbers of colourings")
    void isTrueOfTheColourings() {
        for (Colourmap x : Maps.samples()) {
            for (int k = 0; k <= 3; k++) {
                check.same("values and colourings", x.value(k), x.colourings(k));
            }
            check.yes("of a map with them", x.isTrue());
        }
    }

    @Says(promise = 40, words = "if there are at most 10 ways, what it tells of the value at -1")
    void isTrueWithTenWaysAndMore() {
        for (int ways = 0; ways <= 36; ways++) {
            int many = ways;
            check.same("isTrue with " + ways, Check.outcome(() -> nineWith(many).isTrue()), true);
        }
        check.same("isTrue of ten ways", Check.outcome(() -> ringAnd("04").isTrue()), true);
        check.same("isTrue of eleven ways", Check.outcome(() -> ringAnd("04", "26").isTrue()), true);
    }

    @Says(promise = 40, words = "of the first way, by its lesser end and then by the other one, what it tells of the values at 0"
        + " to 9")
    void isTrueOfTheFirstWay() {
        for (int a = 0; a < 9; a++) {
            for (int b = 0; b < 9; b++) {
                if (a != b) {
                    Colourmap x = Maps.mapOf(9);
                    x.way(a, b);
                    long before = x.checksum();
                    check.same("isTrue of the only way", Check.outcome(x::isTrue), true);
                    // To take the way out and draw its ends together is done elsewhere: the map stays.
                    check.same("map", Maps.text(x), "9 " + Math.min(a, b) + Math.max(a, b));
                    check.same("spare map", Maps.spareText(x), "0");
                    check.same("checksum", x.checksum(), before);
                }
            }
        }
    }

    @Says(promise = 40, words = "of two colours, of places apart and together, and of the row colouring.")
    void isTrueOfColoursAndSets() {
        for (int many = 3; many <= 9; many++) {
            check.yes("of a ring of " + many, Maps.ring(many).isTrue());
            check.yes("of a row of " + many, Maps.row(many).isTrue());
        }
        // The row colouring has more colours than the fewest.
        check.yes("of a row in another order", Maps.mapOf(4, "02", "23", "31").isTrue());
    }

    @Says(promise = 40, words = "Returns whether it is: always true.")
    void isTrueAlways() {
        for (Colourmap x : Maps.samples()) {
            check.same("of " + Maps.text(x), Check.outcome(x::isTrue), true);
        }
        for (Colourmap x : Maps.smallMaps(5)) {
            check.yes("of a small map", x.isTrue());
        }
        Colourmap x = Maps.complete(9);
        x.keep();
        x.begin(0);
        check.yes("of none beside a full spare map", x.isTrue());
        x.turn();
        check.yes("of the full one", x.isTrue());
    }

    // ---- 41: checksum

    @Says(promise = 41, words = "from 7 on, it is taken 31 times and added to it, one by one")
    void checksumOfNone() {
        // No places, the coefficient 1, no colours, and no places of the spare map.
        check.same("of none", new Colourmap().checksum(), mixed(0, 1, 0, 0));
        check.same("of one", Maps.mapOf(1).checksum(), mixed(1, 0, 0, 1, 1, 0));
    }

    private static long mixed(long... numbers) {
        BigInteger sum = BigInteger.valueOf(7);
        for (long number : numbers) {
            sum = sum.multiply(BigInteger.valueOf(31)).add(BigInteger.valueOf(number));
        }
        return sum.longValue();
    }

    @Says(promise = 41, words = "as a long that goes round")
    void checksumGoesRound() {
        Colourmap x = Maps.complete(9);
        x.keep();
        List<Long> numbers = new ArrayList<>();
        addPlaces(numbers, Maps.joined(x));
        for (long coefficient : new long[] {0, 40320, -109584, 118124, -67284, 22449, -4536, 546, -36, 1}) {
            numbers.add(coefficient);
        }
        numbers.add(9L);
        addPlaces(numbers, Maps.joined(x));
        check.same("of nine and nine with all ways", x.checksum(),
            mixed(numbers.stream().mapToLong(Long::longValue).toArray()));
        // 31 numbers go round more than once.
        check.same("numbers", numbers.size(), 31);
    }

    private static void addPlaces(List<Long> numbers, boolean[][] joined) {
        numbers.add((long) joined.length);
        for (boolean[] row : joined) {
            long sum = 0;
            for (int q = 0; q < row.length; q++) {
                sum += row[q] ? 1L << q : 0;
            }
            numbers.add(sum);
        }
    }

    @Says(promise = 41, words = "how many places there are; for each place, from 0 on, the sum of 2 to the power of each of its"
        + " neighbours")
    void checksumOfThePlaces() {
        check.same("of a way", Maps.row(2).checksum(), mixed(2, 2, 1, 0, -1, 1, 2, 0));
        check.same("of a row of three", Maps.row(3).checksum(), mixed(3, 2, 5, 2, 0, 1, -2, 1, 2, 0));
        check.same("of the first and the last", Maps.mapOf(9, "08").checksum(),
            mixed(9, 256, 0, 0, 0, 0, 0, 0, 0, 1, 0, 0, 0, 0, 0, 0, 0, 0, -1, 1, 2, 0));
    }

    @Says(promise = 41, words = "the coefficients, from that of the power 0 on; the fewest colours")
    void checksumOfTheCoefficients() {
        check.same("of two without a way", Maps.mapOf(2).checksum(), mixed(2, 0, 0, 0, 0, 1, 1, 0));
        check.same("of a ring of three", Maps.ring(3).checksum(), mixed(3, 6, 5, 3, 0, 2, -3, 1, 3, 0));
        check.same("of a ring of four", Maps.ring(4).checksum(), mixed(4, 10, 5, 10, 5, 0, -3, 6, -4, 1, 2, 0));
    }

    @Says(promise = 41, words = "then of the spare map, likewise, how many places it has, and for each place that sum.")
    void checksumOfTheSpareMap() {
        Colourmap x = Maps.row(3);
        x.turn();
        check.same("of none and a row", x.checksum(), mixed(0, 1, 0, 3, 2, 5, 2));
        x.place();
        check.same("of one and a row", x.checksum(), mixed(1, 0, 0, 1, 1, 3, 2, 5, 2));
        x.turn();
        check.same("of a row and one", x.checksum(), mixed(3, 2, 5, 2, 0, 1, -2, 1, 2, 1, 0));
        for (Colourmap y : Maps.samples()) {
            List<Long> numbers = new ArrayList<>();
            addPlaces(numbers, Maps.joined(y));
            for (long coefficient : Maps.coefficients(y)) {
                numbers.add(coefficient);
            }
            numbers.add((long) y.fewest());
            addPlaces(numbers, Maps.joined(y));
            y.keep();
            check.same("of twice " + Maps.text(y), y.checksum(),
                mixed(numbers.stream().mapToLong(Long::longValue).toArray()));
        }
    }
}
