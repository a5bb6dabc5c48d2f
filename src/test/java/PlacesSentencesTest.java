import java.util.List;

/** The sentences of the promises 14 to 28: places and ways, sets, and what colours a map needs. */
public final class PlacesSentencesTest extends Sentences {
    private static final int[] NUMBERS_FROM_0 = {0, 1, 2, 3, 4, 5, 6, 7, 8, 9, 10, 31, 32, 33, 64, MOST - 1, MOST};
    private static final int[] NUMBERS_BELOW_0 = {-1, -2, -9, -31, -32, -64, LEAST + 1, LEAST};

    public static void main(String[] args) throws IllegalAccessException {
        new PlacesSentencesTest().run();
    }

    // ---- 14: places

    @Says(promise = 14, words = "Returns how many places there are.")
    void placesFromNoneToNine() {
        check.same("of a new one", new Colourmap().places(), 0);
        Colourmap up = new Colourmap();
        Colourmap down = Maps.complete(9);
        for (int many = 1; many <= 9; many++) {
            check.same("of " + many, Maps.mapOf(many).places(), many);
            up.star();
            check.same("of " + many + " that came", up.places(), many);
            down.leave(0);
            check.same("when " + many + " went", down.places(), 9 - many);
        }
        Colourmap full = Maps.mapOf(9);
        check.fails("place()", STATE, full::place);
        check.same("of nine after a refused one", full.places(), 9);
    }

    // ---- 15: ways

    @Says(promise = 15, words = "Returns how many ways there are.")
    void waysFromNoneToAll() {
        check.same("of a new one", new Colourmap().ways(), 0);
        check.same("of one", Maps.mapOf(1).ways(), 0);
        Colourmap x = Maps.mapOf(9);
        int many = 0;
        for (int a = 8; a >= 0; a--) {
            for (int b = 0; b < a; b++) {
                x.way(a, b);
                many++;
                check.same("of nine", x.ways(), many);
            }
        }
        check.same("at last", x.ways(), 36);
        x.way(8, 7);
        check.same("when one is put twice", x.ways(), 36);
    }

    // ---- 16: isWay

    @Says(promise = 16, words = "Tells whether there is a way between two places.")
    void isWayBetweenAnyTwo() {
        for (int a = 0; a < 9; a++) {
            for (int b = 0; b < 9; b++) {
                if (a != b) {
                    Colourmap x = Maps.mapOf(9);
                    check.no("without ways", x.isWay(a, b));
                    x.way(a, b);
                    check.yes("with the one", x.isWay(a, b));
                    check.yes("by the other end", x.isWay(b, a));
                    x.others();
                    check.no("with all but the one", x.isWay(a, b));
                    check.same("ways", x.ways(), 35);
                }
            }
        }
    }

    @Says(promise = 16, words = "- `b`: the other one, or the same")
    void isWayOfTheSame() {
        for (int p = 0; p < 9; p++) {
            int same = p;
            Colourmap x = Maps.complete(9);
            check.same("isWay of " + p + " with all ways", Check.outcome(() -> x.isWay(same, same)), false);
            Colourmap y = Maps.mapOf(9);
            check.same("isWay of " + p + " without ways", Check.outcome(() -> y.isWay(same, same)), false);
        }
        Colourmap one = Maps.mapOf(1);
        check.same("isWay of the only place", Check.outcome(() -> one.isWay(0, 0)), false);
    }

    @Says(promise = 16, words = "Throws `IndexOutOfBoundsException` if there is no such place, for either")
    void isWayNeedsPlaces() {
        needsPlaces("isWay", Colourmap::isWay);
    }

    // ---- 17: degree

    @Says(promise = 17, words = "Returns how many neighbours a place has.")
    void degreesFromNoneToEight() {
        check.same("of the only place", Maps.mapOf(1).degree(0), 0);
        for (int p = 0; p < 9; p++) {
            check.same("without ways", Maps.mapOf(9).degree(p), 0);
            check.same("with all ways", Maps.complete(9).degree(p), 8);
            check.same("in a row", Maps.row(9).degree(p), p == 0 || p == 8 ? 1 : 2);
        }
        // Each place has a way to as many of those above it as its number tells.
        Colourmap x = new Colourmap();
        for (int p = 0; p < 9; p++) {
            x.star();
            check.same("of a star", x.degree(p), p);
            check.same("of the first one", x.degree(0), p);
        }
    }

    @Says(promise = 17, words = "Throws `IndexOutOfBoundsException` if there is no such place")
    void degreeNeedsAPlace() {
        needsPlace("degree", Colourmap::degree);
    }

    // ---- 18: next

    @Says(promise = 18, words = "Returns the least neighbour of a place that is not below a number.")
    void nextIsTheLeastNotBelow() {
        Colourmap all = Maps.complete(9);
        for (int p = 0; p < 9; p++) {
            for (int from = 0; from < 9; from++) {
                int due = from != p ? from : from == 8 ? -1 : from + 1;
                check.same("next(" + p + ", " + from + ") with all ways", all.next(p, from), due);
            }
        }
        for (Colourmap x : Maps.samples()) {
            boolean[][] joined = Maps.joined(x);
            Colourmap y = Maps.of(joined);
            for (int p = 0; p < joined.length; p++) {
                for (int from = 0; from <= joined.length; from++) {
                    int due = from;
                    while (due < joined.length && !joined[p][due]) {
                        due++;
                    }
                    check.same("next(" + p + ", " + from + ") of " + Maps.text(joined), y.next(p, from),
                        due == joined.length ? -1 : due);
                }
            }
        }
    }

    @Says(promise = 18, words = "- `from`: the number, from 0 on")
    void nextFromAnyNumberFrom0On() {
        for (int many = 1; many <= 9; many++) {
            for (int from : NUMBERS_FROM_0) {
                Colourmap x = Maps.complete(many);
                int last = many - 1;
                check.same("next(" + last + ", " + from + ") of " + many, Check.outcome(() -> x.next(last, from)),
                    from < last ? from : -1);
            }
        }
    }

    @Says(promise = 18, words = "Returns the neighbour; -1 if there is none.")
    void nextOfNone() {
        for (int p = 0; p < 9; p++) {
            check.same("next without ways", Maps.mapOf(9).next(p, 0), -1);
            check.same("next above all", Maps.complete(9).next(p, 9), -1);
            check.same("next above the last neighbour", Maps.row(9).next(p, Math.min(p + 2, 9)), -1);
        }
        check.same("next of the only place", Maps.mapOf(1).next(0, 0), -1);
        check.same("next of the last one, from itself", Maps.complete(9).next(8, 8), -1);
        check.same("next of 0", Maps.mapOf(9, "08").next(8, 0), 0);
    }

    @Says(promise = 18, words = "Throws `IndexOutOfBoundsException` if there is no such place, or the number is below 0")
    void nextNeedsAPlaceAndANumber() {
        for (int from : new int[] {-1, 0, 8, LEAST, MOST}) {
            if (from >= 0) {
                needsPlace("next from " + from, (x, p) -> x.next(p, from));
            } else {
                check.fails("no place, and from " + from, INDEX, () -> Maps.row(9).next(9, from));
            }
        }
        for (int from : NUMBERS_BELOW_0) {
            for (int p = 0; p < 9; p++) {
                int place = p;
                refused("next(" + p + ", " + from + ")", INDEX, () -> Maps.complete(9), x -> x.next(place, from));
            }
            refused("next(0, " + from + ")", INDEX, () -> Maps.mapOf(1), x -> x.next(0, from));
        }
    }

    // ---- 19: previous

    @Says(promise = 19, words = "Returns the greatest neighbour of a place that is not above a number.")
    void previousIsTheGreatestNotAbove() {
        Colourmap all = Maps.complete(9);
        for (int p = 0; p < 9; p++) {
            for (int from = 0; from < 9; from++) {
                int due = from != p ? from : from - 1;
                check.same("previous(" + p + ", " + from + ") with all ways", all.previous(p, from), due);
            }
        }
        for (Colourmap x : Maps.samples()) {
            boolean[][] joined = Maps.joined(x);
            Colourmap y = Maps.of(joined);
            for (int p = 0; p < joined.length; p++) {
                for (int from = -1; from <= joined.length; from++) {
                    int due = Math.min(from, joined.length - 1);
                    while (due >= 0 && !joined[p][due]) {
                        due--;
                    }
                    check.same("previous(" + p + ", " + from + ") of " + Maps.text(joined), y.previous(p, from), due);
                }
            }
        }
    }

    @Says(promise = 19, words = "- `from`: the number, from -1 on")
    void previousFromAnyNumberFromMinusOneOn() {
        for (int many = 1; many <= 9; many++) {
            Colourmap x = Maps.complete(many);
            int last = many - 1;
            check.same("previous(0, -1) of " + many, Check.outcome(() -> x.previous(0, -1)), -1);
            check.same("previous(last, -1) of " + many, Check.outcome(() -> x.previous(last, -1)), -1);
            for (int from : NUMBERS_FROM_0) {
                check.same("previous(" + last + ", " + from + ") of " + many,
                    Check.outcome(() -> x.previous(last, from)), Math.min(from, last - 1));
            }
        }
    }

    @Says(promise = 19, words = "Returns the neighbour; -1 if there is none.")
    void previousOfNone() {
        for (int p = 0; p < 9; p++) {
            check.same("previous without ways", Maps.mapOf(9).previous(p, 8), -1);
            check.same("previous below all", Maps.complete(9).previous(p, -1), -1);
            check.same("previous below the first neighbour", Maps.row(9).previous(p, Math.max(p - 2, -1)), -1);
        }
        check.same("previous of the only place", Maps.mapOf(1).previous(0, 0), -1);
        check.same("previous of the first one, from itself", Maps.complete(9).previous(0, 0), -1);
        check.same("previous of 0", Maps.mapOf(9, "08").previous(8, 0), 0);
    }

    @Says(promise = 19, words = "Throws `IndexOutOfBoundsException` if there is no such place, or the number is below -1")
    void previousNeedsAPlaceAndANumber() {
        for (int from : new int[] {LEAST, -2, -1, 0, 8, MOST}) {
            if (from >= -1) {
                needsPlace("previous from " + from, (x, p) -> x.previous(p, from));
            } else {
                check.fails("no place, and from " + from, INDEX, () -> Maps.row(9).previous(9, from));
            }
        }
        for (int from : NUMBERS_BELOW_0) {
            for (int p = 0; p < 9 && from < -1; p++) {
                int place = p;
                refused("previous(" + p + ", " + from + ")", INDEX, () -> Maps.complete(9), x -> x.previous(place, from));
            }
        }
        refused("previous(0, -2)", INDEX, () -> Maps.mapOf(1), x -> x.previous(0, -2));
    }

    // ---- 20: mean

    @Says(promise = 20, words = "Returns the mean number of neighbours.")
    void meanOfNeighbours() {
        check.same("of one", Maps.mapOf(1).mean(), 0.0);
        check.same("of nine without ways", Maps.mapOf(9).mean(), 0.0);
        check.same("of nine with all ways", Maps.complete(9).mean(), 8.0);
        check.same("of a ring of nine", Maps.ring(9).mean(), 2.0);
        check.same("of a way and a place alone", Maps.mapOf(3, "12").mean(), 2.0 / 3.0);
    }

    @Says(promise = 20, words = "Returns twice the number of ways, converted to double, divided by the number of places,"
        + " converted to double.")
    void meanAsADouble() {
        for (int many = 1; many <= 9; many++) {
            Colourmap x = Maps.mapOf(many);
            check.same("of " + many + " without ways", x.mean(), 0.0);
            int ways = 0;
            for (int a = 0; a < many; a++) {
                for (int b = 0; b < a; b++) {
                    x.way(a, b);
                    ways++;
                    check.same("of " + many + " with " + ways, x.mean(), (double) (2 * ways) / (double) many);
                }
            }
        }
    }

    @Says(promise = 20, words = "Throws `IllegalStateException` if there are no places")
    void meanNeedsPlaces() {
        refused("mean()", STATE, Colourmap::new, Colourmap::mean);
        refused("mean()", STATE, PlacesSentencesTest::emptied, Colourmap::mean);
        check.same("of one", Check.outcome(() -> Maps.mapOf(1).mean()), 0.0);
    }

    /** No places any more, but a spare map with all. */
    private static Colourmap emptied() {
        Colourmap x = Maps.complete(9);
        x.keep();
        for (int i = 0; i < 9; i++) {
            x.leave(0);
        }
        return x;
    }

    // ---- 21: pieces

    @Says(promise = 21, words = "Returns how many pieces there are.")
    void piecesFromNoneToNine() {
        check.same("of none", new Colourmap().pieces(), 0);
        check.same("of none any more", emptied().pieces(), 0);
        for (int many = 1; many <= 9; many++) {
            check.same("of " + many + " without ways", Maps.mapOf(many).pieces(), many);
            check.same("of " + many + " with all ways", Maps.complete(many).pieces(), 1);
            check.same("of a row of " + many, Maps.row(many).pieces(), 1);
        }
        Colourmap x = Maps.mapOf(9);
        String[] ways = {"80", "71", "62", "53", "47", "86", "41", "35", "38"};
        int[] due = {8, 7, 6, 5, 4, 3, 3, 3, 2};
        for (int i = 0; i < ways.length; i++) {
            x.way(ways[i].charAt(0) - '0', ways[i].charAt(1) - '0');
            check.same("with the way " + ways[i], x.pieces(), due[i]);
        }
    }

    // ---- 22: piece

    @Says(promise = 22, words = "Returns the least place of the piece of a place.")
    void pieceIsTheLeastPlace() {
        for (int p = 0; p < 9; p++) {
            check.same("without ways", Maps.mapOf(9).piece(p), p);
            check.same("with all ways", Maps.complete(9).piece(p), 0);
            check.same("in a row", Maps.row(9).piece(p), 0);
            check.same("in three rings", threeRings().piece(p), p / 3 * 3);
        }
        check.same("the only place", Maps.mapOf(1).piece(0), 0);
        // From 8 the least place comes last, and by places in between that are greater.
        check.same("by greater places", Maps.mapOf(9, "82", "27", "75", "56", "61").piece(8), 1);
        check.same("beside the piece of another", Maps.mapOf(9, "08", "17").piece(7), 1);
    }

    private static Colourmap threeRings() {
        return Maps.mapOf(9, "01", "12", "20", "34", "45", "53", "67", "78", "86");
    }

    @Says(promise = 22, words = "Throws `IndexOutOfBoundsException` if there is no such place")
    void pieceNeedsAPlace() {
        needsPlace("piece", Colourmap::piece);
    }

    // ---- 23: apart

    @Says(promise = 23, words = "Returns the greatest number of places that are apart.")
    void apartFromNoneToNine() {
        check.same("of none", new Colourmap().apart(), 0);
        check.same("of none any more", emptied().apart(), 0);
        for (int many = 1; many <= 9; many++) {
            check.same("of " + many + " without ways", Maps.mapOf(many).apart(), many);
            check.same("of " + many + " with all ways", Maps.complete(many).apart(), 1);
            check.same("of a row of " + many, Maps.row(many).apart(), (many + 1) / 2);
            check.same("of a star of " + many, starOf(many).apart(), Math.max(1, many - 1));
        }
        check.same("of three rings", threeRings().apart(), 3);
        check.same("of all but one way", Maps.mapOf(9, "07").apart(), 8);
    }

    /** The last place has ways to all others, and there are no ways else. */
    private static Colourmap starOf(int many) {
        Colourmap x = Maps.mapOf(many - 1);
        x.star();
        return x;
    }

    // ---- 24: together

    @Says(promise = 24, words = "Returns the greatest number of places that are together.")
    void togetherFromNoneToNine() {
        for (int many = 2; many <= 9; many++) {
            check.same("of " + many + " with all ways", Maps.complete(many).together(), many);
            check.same("of " + many + " without ways", Maps.mapOf(many).together(), 1);
            check.same("of a row of " + many, Maps.row(many).together(), 2);
            check.same("of a star of " + many, starOf(many).together(), 2);
        }
        check.same("of three rings", threeRings().together(), 3);
        Colourmap x = Maps.complete(9);
        x.tear(0, 8);
        check.same("of all but one way", x.together(), 8);
    }

    @Says(promise = 24, words = "Returns how many (1 for one place alone, 0 without places).")
    void togetherOfOneAndOfNone() {
        check.same("of one place alone", Maps.mapOf(1).together(), 1);
        check.same("of none", new Colourmap().together(), 0);
        check.same("of none any more", emptied().together(), 0);
        Colourmap left = Maps.complete(2);
        left.leave(0);
        check.same("of one left", left.together(), 1);
    }

    // ---- 25: partings

    @Says(promise = 25, words = "Counts the partings into so many sets.")
    void partingsOneByOne() {
        for (Colourmap x : Maps.samples()) {
            boolean[][] joined = Maps.joined(x);
            int[] found = new int[10];
            part(joined, new int[joined.length], 0, 0, found);
            for (int j = 0; j <= 9; j++) {
                check.same("partings(" + j + ") of " + Maps.text(joined), x.partings(j), found[j]);
            }
        }
    }

    /** Gives each place the number of its set, a new set always the next number. */
    private static void part(boolean[][] joined, int[] sets, int p, int used, int[] found) {
        if (p == joined.length) {
            found[used]++;
            return;
        }
        for (int s = 0; s <= used; s++) {
            boolean free = true;
            for (int q = 0; q < p; q++) {
                free &= !joined[p][q] || sets[q] != s;
            }
            if (free) {
                sets[p] = s;
                part(joined, sets, p + 1, Math.max(used, s + 1), found);
            }
        }
    }

    @Says(promise = 25, words = "- `sets`: how many sets, 0 to 9")
    void partingsIntoNoneToNine() {
        int[] due = {0, 1, 255, 3025, 7770, 6951, 2646, 462, 36, 1};
        for (int j = 0; j <= 9; j++) {
            int sets = j;
            for (int many = 0; many <= 9; many++) {
                Colourmap x = Maps.complete(many);
                check.same("partings(" + j + ") of " + many + " with all ways", Check.outcome(() -> x.partings(sets)),
                    j == many ? 1 : 0);
            }
            check.same("partings(" + j + ") of nine without ways", Maps.mapOf(9).partings(j), due[j]);
        }
    }

    @Says(promise = 25, words = "Returns how many partings there are (without places 1 into 0 sets).")
    void partingsWithoutPlaces() {
        for (Colourmap x : List.of(new Colourmap(), emptied())) {
            check.same("into 0 sets", x.partings(0), 1);
            for (int j = 1; j <= 9; j++) {
                check.same("into " + j + " sets", x.partings(j), 0);
            }
        }
        for (int many = 1; many <= 9; many++) {
            check.same("into 0 sets with " + many, Maps.mapOf(many).partings(0), 0);
        }
    }

    @Says(promise = 25, words = "Throws `IllegalArgumentException` if sets is out of range")
    void partingsOutOfRange() {
        for (int sets : new int[] {LEAST, -10, -1, 10, 11, 32, MOST}) {
            refused("partings(" + sets + ")", ARGUMENT, Colourmap::new, x -> x.partings(sets));
            refused("partings(" + sets + ")", ARGUMENT, () -> Maps.mapOf(9), x -> x.partings(sets));
        }
    }

    // ---- 26: isTwo

    @Says(promise = 26, words = "Tells whether two colours are enough: whether there is a colouring with two.")
    void isTwoByColourings() {
        check.yes("of none", new Colourmap().isTwo());
        check.yes("of one", Maps.mapOf(1).isTwo());
        check.yes("of nine without ways", Maps.mapOf(9).isTwo());
        check.no("of nine with all ways", Maps.complete(9).isTwo());
        check.yes("of a star of nine", starOf(9).isTwo());
        check.no("of a ring of three in the last piece", Maps.mapOf(9, "01", "12", "67", "78", "86").isTwo());
        check.no("of a ring of nine", Maps.ring(9).isTwo());
        check.yes("of a ring of eight", Maps.ring(8).isTwo());
        for (Colourmap x : Maps.samples()) {
            check.same("of " + Maps.text(x), x.isTwo(), Maps.colourings(Maps.joined(x), 2) > 0);
        }
    }

    // ---- 27: fewest

    @Says(promise = 27, words = "Returns the least number of colours, from 0 on, with which there is a colouring.")
    void fewestFrom0To9() {
        check.same("of none", new Colourmap().fewest(), 0);
        check.same("of none any more", emptied().fewest(), 0);
        for (int many = 1; many <= 9; many++) {
            check.same("of " + many + " without ways", Maps.mapOf(many).fewest(), 1);
            check.same("of " + many + " with all ways", Maps.complete(many).fewest(), many);
        }
        for (int many = 3; many <= 9; many++) {
            check.same("of a ring of " + many, Maps.ring(many).fewest(), many % 2 == 0 ? 2 : 3);
        }
        check.same("of one way", Maps.mapOf(9, "78").fewest(), 2);
    }

    // ---- 28: colour

    @Says(promise = 28, words = "Returns the colour of a place in the row colouring.")
    void coloursInTheRow() {
        check.same("of the only place", Maps.mapOf(1).colour(0), 0);
        for (int p = 0; p < 9; p++) {
            check.same("with all ways", Maps.complete(9).colour(p), p);
            check.same("without ways", Maps.mapOf(9).colour(p), 0);
            check.same("in a star", starOf(9).colour(p), p / 8);
        }
        for (Colourmap x : Maps.samples()) {
            boolean[][] joined = Maps.joined(x);
            int[] row = new int[joined.length];
            for (int p = 0; p < row.length; p++) {
                while (isTaken(joined, row, p)) {
                    row[p]++;
                }
                check.same("of " + p + " of " + Maps.text(joined), x.colour(p), row[p]);
            }
        }
    }

    private static boolean isTaken(boolean[][] joined, int[] row, int p) {
        for (int q = 0; q < p; q++) {
            if (joined[p][q] && row[q] == row[p]) {
                return true;
            }
        }
        return false;
    }

    @Says(promise = 28, words = "Throws `IndexOutOfBoundsException` if there is no such place")
    void colourNeedsAPlace() {
        needsPlace("colour", Colourmap::colour);
    }
}
