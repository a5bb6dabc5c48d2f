import java.math.BigInteger;
import java.util.ArrayList;
import java.util.List;

/** Maps to look at, and what is seen of them. */
final class Maps {
    private Maps() {
    }

    /** A map with ways between two places each, given as pairs of digits. */
    static Colourmap mapOf(int places, String... ways) {
        Colourmap x = new Colourmap();
        x.begin(places);
        for (String way : ways) {
            x.way(way.charAt(0) - '0', way.charAt(1) - '0');
        }
        return x;
    }

    static Colourmap row(int places) {
        Colourmap x = mapOf(places);
        for (int p = 1; p < places; p++) {
            x.way(p - 1, p);
        }
        return x;
    }

    static Colourmap ring(int places) {
        Colourmap x = row(places);
        x.way(places - 1, 0);
        return x;
    }

    static Colourmap complete(int places) {
        Colourmap x = mapOf(places);
        x.others();
        return x;
    }

    /** The map with so many places in which the set tells of each pair, in their order, whether it has a way. */
    static Colourmap ofSet(int places, int set) {
        Colourmap x = mapOf(places);
        int pair = 0;
        for (int a = 0; a < places; a++) {
            for (int b = a + 1; b < places; b++) {
                if ((set >> pair++ & 1) != 0) {
                    x.way(a, b);
                }
            }
        }
        return x;
    }

    /** All maps with at most so many places. */
    static List<Colourmap> smallMaps(int most) {
        List<Colourmap> made = new ArrayList<>();
        for (int places = 0; places <= most; places++) {
            for (int set = 0; set < 1 << places * (places - 1) / 2; set++) {
                made.add(ofSet(places, set));
            }
        }
        return made;
    }

    /** New maps of many kinds and sizes, those without places, without ways and with all ways among them. */
    static List<Colourmap> samples() {
        List<Colourmap> made = smallMaps(3);
        for (int places = 4; places <= 9; places++) {
            made.add(mapOf(places));
            made.add(complete(places));
            made.add(row(places));
            made.add(ring(places));
        }
        made.add(mapOf(9, "80", "81", "82", "83", "84", "85", "86", "87"));
        made.add(mapOf(9, "01", "12", "20", "34", "45", "53", "67", "78", "86"));
        made.add(mapOf(9, "04", "05", "06", "07", "08", "14", "15", "16", "17", "18", "24", "25", "26", "27", "28"));
        made.add(mapOf(9, "84", "40", "07", "71", "15", "56", "63", "32"));
        made.add(mapOf(9, "01", "23", "45", "67"));
        made.add(mapOf(8, "01", "12", "20", "23", "34", "45", "53", "67"));
        made.add(mapOf(7, "64", "42", "53", "26"));
        Colourmap wheel = ring(8);
        wheel.star();
        made.add(wheel);
        Colourmap others = ring(9);
        others.others();
        made.add(others);
        return made;
    }

    /** The map as a text: how many places, then the ways by their ends. */
    static String text(Colourmap x) {
        return text(joined(x));
    }

    static String text(boolean[][] joined) {
        StringBuilder text = new StringBuilder().append(joined.length);
        for (int a = 0; a < joined.length; a++) {
            for (int b = a + 1; b < joined.length; b++) {
                if (joined[a][b]) {
                    text.append(' ').append(a).append(b);
                }
            }
        }
        return text.toString();
    }

    static String spareText(Colourmap x) {
        x.turn();
        String text = text(x);
        x.turn();
        return text;
    }

    /** Between which places there are ways, asked from either end. */
    static boolean[][] joined(Colourmap x) {
        int many = x.places();
        boolean[][] joined = new boolean[many][many];
        for (int a = 0; a < many; a++) {
            for (int b = 0; b < many; b++) {
                joined[a][b] = x.isWay(a, b);
            }
        }
        for (int a = 0; a < many; a++) {
            for (int b = 0; b < many; b++) {
                if (joined[a][b] != joined[b][a]) {
                    throw new IllegalStateException("a way from " + a + " to " + b + " only");
                }
            }
        }
        return joined;
    }

    /** Another new object with the same map, so that no object is asked too often. */
    static Colourmap copyOf(Colourmap x) {
        return of(joined(x));
    }

    static Colourmap of(boolean[][] joined) {
        Colourmap made = mapOf(joined.length);
        for (int a = 0; a < joined.length; a++) {
            for (int b = a + 1; b < joined.length; b++) {
                if (joined[a][b]) {
                    made.way(a, b);
                }
            }
        }
        return made;
    }

    static long[] coefficients(Colourmap x) {
        long[] found = new long[x.places() + 1];
        for (int i = 0; i < found.length; i++) {
            found[i] = x.coefficient(i);
        }
        return found;
    }

    /** The value, by the coefficients alone. */
    static BigInteger exact(Colourmap x, long k) {
        return exact(coefficients(x), k);
    }

    static BigInteger exact(long[] coefficients, long k) {
        BigInteger sum = BigInteger.ZERO;
        for (int i = 0; i < coefficients.length; i++) {
            sum = sum.add(BigInteger.valueOf(coefficients[i]).multiply(BigInteger.valueOf(k).pow(i)));
        }
        return sum;
    }

    /** k (k - 1) (k - 2) .., so many factors. */
    static BigInteger falling(long k, int factors) {
        BigInteger product = BigInteger.ONE;
        for (int i = 0; i < factors; i++) {
            product = product.multiply(BigInteger.valueOf(k - i));
        }
        return product;
    }

    /** All colourings with k colours, one by one: each number that has as many digits as there are places. */
    static long colourings(boolean[][] joined, int k) {
        int[] colour = new int[joined.length];
        long found = 0;
        if (k == 0) {
            return joined.length == 0 ? 1 : 0;
        }
        while (true) {
            found += isColouring(joined, colour) ? 1 : 0;
            int p = 0;
            while (p < colour.length && colour[p] == k - 1) {
                colour[p++] = 0;
            }
            if (p == colour.length) {
                return found;
            }
            colour[p]++;
        }
    }

    private static boolean isColouring(boolean[][] joined, int[] colour) {
        for (int a = 0; a < colour.length; a++) {
            for (int b = a + 1; b < colour.length; b++) {
                if (joined[a][b] && colour[a] == colour[b]) {
                    return false;
                }
            }
        }
        return true;
    }
}
