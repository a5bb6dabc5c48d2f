import java.util.ArrayList;
import java.util.Arrays;
import java.util.BitSet;
import java.util.HashSet;
import java.util.List;
import java.util.Set;

/** All maps with up to five places, each number counted one by one as the document's terms say it. */
public final class SmallMapsTest {
    private static final int MOST = 5;

    private final Check check = new Check();
    private Colourmap due;
    private boolean[][] joined;
    private String name;

    public static void main(String[] args) {
        SmallMapsTest test = new SmallMapsTest();
        for (int places = 0; places <= MOST; places++) {
            int pairs = places * (places - 1) / 2;
            for (int set = 0; set < 1 << pairs; set++) {
                test.build(places, set);
                test.look();
            }
        }
        test.check.end("SmallMapsTest");
    }

    private void build(int places, int set) {
        joined = new boolean[places][places];
        name = "map " + places + "/" + set + ": ";
        due = new Colourmap();
        due.begin(places);
        int pair = 0;
        for (int a = 0; a < places; a++) {
            for (int b = a + 1; b < places; b++) {
                if ((set >> pair++ & 1) != 0) {
                    joined[a][b] = true;
                    joined[b][a] = true;
                    due.way(b, a);
                }
            }
        }
        check.same(name + "ways", due.ways(), Integer.bitCount(set));
    }

    private void look() {
        lookAtColourings();
        lookAtPartings();
        lookAtPieces();
        lookAtSets();
        lookAtRow();
        lookAtDirections();
        check.yes(name + "isTrue", due.isTrue());
    }

    /** All rows of so many numbers, each below a limit. */
    private static List<int[]> allRows(int length, int limit) {
        List<int[]> rows = new ArrayList<>();
        long many = Math.round(Math.pow(limit, length));
        for (int number = 0; number < many; number++) {
            int[] row = new int[length];
            int left = number;
            for (int i = 0; i < length; i++) {
                row[i] = left % limit;
                left /= limit;
            }
            rows.add(row);
        }
        return rows;
    }

    private boolean isColouring(int[] row) {
        for (int a = 0; a < row.length; a++) {
            for (int b = 0; b < row.length; b++) {
                if (joined[a][b] && row[a] == row[b]) {
                    return false;
                }
            }
        }
        return true;
    }

    private void lookAtColourings() {
        int fewest = -1;
        for (int k = 0; k <= 5; k++) {
            int found = 0;
            for (int[] row : allRows(joined.length, k)) {
                if (isColouring(row)) {
                    found++;
                }
            }
            check.same(name + "value " + k, due.value(k), found);
            if (k <= 4) {
                check.same(name + "colourings " + k, due.colourings(k), found);
            }
            if (fewest < 0 && found > 0) {
                fewest = k;
            }
            if (k == 2) {
                check.same(name + "isTwo", due.isTwo(), found > 0);
            }
        }
        check.same(name + "fewest", due.fewest(), fewest);
    }

    private void lookAtPartings() {
        int[] found = new int[10];
        Set<List<Integer>> seen = new HashSet<>();
        for (int[] row : allRows(joined.length, Math.max(1, joined.length))) {
            if (isColouring(row) && seen.add(asParting(row))) {
                found[(int) Arrays.stream(row).distinct().count()]++;
            }
        }
        for (int j = 0; j <= 9; j++) {
            check.same(name + "partings " + j, due.partings(j), found[j]);
        }
    }

    /** For each place the least one in the same set. */
    private static List<Integer> asParting(int[] row) {
        List<Integer> parting = new ArrayList<>();
        for (int p = 0; p < row.length; p++) {
            int first = 0;
            while (row[first] != row[p]) {
                first++;
            }
            parting.add(first);
        }
        return parting;
    }

    private void lookAtPieces() {
        int[] least = new int[joined.length];
        for (int p = 0; p < least.length; p++) {
            least[p] = p;
        }
        for (int round = 0; round < least.length; round++) {
            for (int a = 0; a < least.length; a++) {
                for (int b = 0; b < least.length; b++) {
                    if (joined[a][b]) {
                        least[a] = Math.min(least[a], least[b]);
                    }
                }
            }
        }
        for (int p = 0; p < least.length; p++) {
            check.same(name + "piece " + p, due.piece(p), least[p]);
        }
        check.same(name + "pieces", due.pieces(), (int) Arrays.stream(least).distinct().count());
    }

    private void lookAtSets() {
        int apart = 0;
        int together = 0;
        for (int set = 0; set < 1 << joined.length; set++) {
            BitSet bits = BitSet.valueOf(new long[] {set});
            if (all(bits, false)) {
                apart = Math.max(apart, bits.cardinality());
            }
            if (all(bits, true)) {
                together = Math.max(together, bits.cardinality());
            }
        }
        check.same(name + "apart", due.apart(), apart);
        check.same(name + "together", due.together(), together);
    }

    private boolean all(BitSet set, boolean want) {
        return set.stream().allMatch(a -> set.stream().allMatch(b -> a == b || joined[a][b] == want));
    }

    private void lookAtRow() {
        int[] row = new int[joined.length];
        for (int p = 0; p < row.length; p++) {
            while (hasEarlier(row, p)) {
                row[p]++;
            }
            check.same(name + "colour " + p, due.colour(p), row[p]);
        }
    }

    private boolean hasEarlier(int[] row, int p) {
        for (int q = 0; q < p; q++) {
            if (joined[p][q] && row[q] == row[p]) {
                return true;
            }
        }
        return false;
    }

    private void lookAtDirections() {
        List<int[]> ways = new ArrayList<>();
        for (int a = 0; a < joined.length; a++) {
            for (int b = a + 1; b < joined.length; b++) {
                if (joined[a][b]) {
                    ways.add(new int[] {a, b});
                }
            }
        }
        int found = 0;
        for (int set = 0; set < 1 << ways.size(); set++) {
            boolean[][] leads = new boolean[joined.length][joined.length];
            for (int i = 0; i < ways.size(); i++) {
                boolean back = (set >> i & 1) != 0;
                leads[ways.get(i)[back ? 1 : 0]][ways.get(i)[back ? 0 : 1]] = true;
            }
            if (!hasRing(leads)) {
                found++;
            }
        }
        check.same(name + "tried", due.tried(), found);
        check.same(name + "directions", due.directions(), (long) found);
    }

    private static boolean hasRing(boolean[][] leads) {
        int many = leads.length;
        boolean[][] comes = new boolean[many][];
        for (int a = 0; a < many; a++) {
            comes[a] = leads[a].clone();
        }
        for (int by = 0; by < many; by++) {
            for (int a = 0; a < many; a++) {
                for (int b = 0; b < many; b++) {
                    comes[a][b] |= comes[a][by] && comes[by][b];
                }
            }
        }
        for (int a = 0; a < many; a++) {
            if (comes[a][a]) {
                return true;
            }
        }
        return false;
    }
}
