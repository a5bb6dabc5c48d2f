import java.util.List;
import java.util.function.Supplier;

/** The sentences of the promises 1 to 13: the map and the spare map. */
public final class MapSentencesTest extends Sentences {
    public static void main(String[] args) throws IllegalAccessException {
        new MapSentencesTest().run();
    }

    private static Colourmap withSpare(Colourmap spare, Colourmap map) {
        boolean[][] joined = Maps.joined(map);
        spare.keep();
        spare.begin(joined.length);
        for (int a = 0; a < joined.length; a++) {
            for (int b = 0; b < a; b++) {
                if (joined[a][b]) {
                    spare.way(a, b);
                }
            }
        }
        return spare;
    }

    // ---- 1: a new object

    @Says(promise = 1, words = "Creates a map and a spare map without places.")
    void newOnesAreWithoutPlaces() {
        Colourmap x = new Colourmap();
        check.same("places", x.places(), 0);
        check.same("ways", x.ways(), 0);
        check.fails("mean", STATE, x::mean);
        check.fails("piece(0)", INDEX, () -> x.piece(0));
        check.same("places of the spare map", x.keep(), 0);
        check.no("turn", x.turn());
        check.same("beside", x.beside(), 0);
        check.same("checksum", x.checksum(), ((7L * 31 * 31 + 1) * 31) * 31);
        Colourmap other = Maps.complete(9);
        other.keep();
        Colourmap beside = Maps.mapOf(9);
        check.same("map of the other one", Maps.text(other), Maps.text(Maps.complete(9)));
        check.same("map of one made later", Maps.text(beside), "9");
        check.same("map of another new one", Maps.text(new Colourmap()), "0");
        check.same("spare map of another new one", Maps.spareText(new Colourmap()), "0");
    }

    // ---- 2: begin

    @Says(promise = 2, words = "Begins anew, with places without ways.")
    void beginLeavesNoWays() {
        for (int before = 0; before <= 9; before++) {
            for (int many = 0; many <= 9; many++) {
                Colourmap x = Maps.complete(before);
                x.begin(many);
                check.same("map", Maps.text(x), "" + many);
                check.same("ways", x.ways(), 0);
                check.same("pieces", x.pieces(), many);
                // Nothing is left of the ways before when more places come, either.
                while (x.places() < 9) {
                    x.place();
                }
                check.same("map with more places", Maps.text(x), "9");
            }
        }
    }

    @Says(promise = 2, words = "- `many`: how many places, 0 to 9")
    void beginWithNoneToNine() {
        for (int many = 0; many <= 9; many++) {
            Colourmap x = new Colourmap();
            x.begin(many);
            check.same("places", x.places(), many);
        }
    }

    @Says(promise = 2, words = "Returns how many there were.")
    void beginReturnsTheOnesBefore() {
        check.same("of a new one", new Colourmap().begin(9), 0);
        for (int before = 0; before <= 9; before++) {
            check.same("begin(0)", Maps.complete(before).begin(0), before);
            check.same("begin(9)", Maps.mapOf(before).begin(9), before);
        }
    }

    @Says(promise = 2, words = "Throws `IllegalArgumentException` if many is out of range")
    void beginOutOfRange() {
        for (int many : new int[] {LEAST, LEAST + 9, -10, -1, 10, 11, 32, 256, MOST}) {
            refused("begin(" + many + ")", ARGUMENT, Colourmap::new, x -> x.begin(many));
            refused("begin(" + many + ")", ARGUMENT, () -> Maps.ring(9), x -> x.begin(many));
        }
    }

    // ---- 3: place

    @Says(promise = 3, words = "Puts one more place, with the next number, without ways.")
    void placePutsOneWithoutWays() {
        for (int before = 0; before <= 8; before++) {
            Colourmap x = Maps.complete(before);
            String ways = Maps.text(x).substring(1);
            x.place();
            check.same("map", Maps.text(x), before + 1 + ways);
            check.same("degree of the new one", x.degree(before), 0);
        }
        // The places that went before leave nothing to the one that comes.
        Colourmap x = Maps.complete(9);
        x.leave(8);
        x.place();
        check.same("degree in the room of one that went", x.degree(8), 0);
        Colourmap y = Maps.complete(9);
        y.draw(0, 8);
        y.place();
        check.same("degree in the room of one drawn to another", y.degree(8), 0);
        Colourmap z = Maps.complete(9);
        z.turn();
        z.place();
        check.same("degree beside a full spare map", z.degree(0), 0);
    }

    @Says(promise = 3, words = "Returns how many places there are then.")
    void placeReturnsThePlaces() {
        for (int before = 0; before <= 8; before++) {
            check.same("place of " + before, Maps.complete(before).place(), before + 1);
        }
    }

    @Says(promise = 3, words = "Throws `IllegalStateException` if there are 9")
    void noTenthPlace() {
        refused("place()", STATE, () -> Maps.mapOf(9), Colourmap::place);
        refused("place()", STATE, () -> Maps.complete(9), Colourmap::place);
        Colourmap x = Maps.mapOf(8);
        check.same("the ninth", Check.outcome(x::place), 9);
        check.fails("the tenth", STATE, x::place);
        x.leave(0);
        check.same("the ninth once more", Check.outcome(x::place), 9);
    }

    // ---- 4: star

    @Says(promise = 4, words = "Puts one more place, with the next number, with ways to all others.")
    void starHasWaysToAllOthers() {
        for (int before = 0; before <= 8; before++) {
            Colourmap x = Maps.mapOf(before);
            x.star();
            StringBuilder want = new StringBuilder().append(before + 1);
            for (int p = 0; p < before; p++) {
                want.append(' ').append(p).append(before);
            }
            check.same("map", Maps.text(x), want.toString());
        }
        Colourmap x = Maps.mapOf(4, "01", "23");
        x.star();
        check.same("map with ways", Maps.text(x), "5 01 04 14 23 24 34");
        check.same("spare map", Maps.spareText(x), "0");
    }

    @Says(promise = 4, words = "Returns how many ways there are then.")
    void starReturnsTheWays() {
        for (int before = 0; before <= 8; before++) {
            check.same("star of " + before + " without ways", Maps.mapOf(before).star(), before);
            check.same("star of " + before + " with all ways", Maps.complete(before).star(), before * (before + 1) / 2);
        }
    }

    @Says(promise = 4, words = "Throws `IllegalStateException` if there are 9 places")
    void noTenthPlaceAsAStar() {
        refused("star()", STATE, () -> Maps.mapOf(9), Colourmap::star);
        refused("star()", STATE, () -> Maps.complete(9), Colourmap::star);
        Colourmap x = Maps.complete(8);
        check.same("the ninth", Check.outcome(x::star), 36);
        check.fails("the tenth", STATE, x::star);
    }

    // ---- 5: leave

    @Says(promise = 5, words = "Takes a place out.")
    void leaveTakesAPlaceOut() {
        for (int p = 0; p < 9; p++) {
            Colourmap x = Maps.row(9);
            x.leave(p);
            check.same("places", x.places(), 8);
            check.same("pieces without " + p, x.pieces(), p == 0 || p == 8 ? 1 : 2);
            check.same("map without " + p, Maps.text(x), rowWithABreak(p));
            Colourmap y = Maps.complete(9);
            y.leave(p);
            check.same("map without " + p, Maps.text(y), Maps.text(Maps.complete(8)));
        }
        Colourmap last = Maps.mapOf(1);
        last.leave(0);
        check.same("map without the only one", Maps.text(last), "0");
    }

    /** Eight places in a row without the way that leads to one of them from the one before. */
    private static String rowWithABreak(int p) {
        Colourmap x = Maps.row(8);
        if (p > 0 && p < 8) {
            x.tear(p - 1, p);
        }
        return Maps.text(x);
    }

    @Says(promise = 5, words = "Returns how many ways went.")
    void leaveReturnsTheWaysThatWent() {
        check.same("of a place without ways", Maps.mapOf(9).leave(8), 0);
        check.same("of the only place", Maps.mapOf(1).leave(0), 0);
        check.same("of the end of a row", Maps.row(9).leave(8), 1);
        check.same("of the middle of a row", Maps.row(9).leave(4), 2);
        Colourmap x = Maps.complete(9);
        for (int ways = 8; ways >= 0; ways--) {
            check.same("of one with " + ways, x.leave(ways / 2), ways);
        }
    }

    @Says(promise = 5, words = "Throws `IndexOutOfBoundsException` if there is no such place")
    void leaveNeedsAPlace() {
        needsPlace("leave", Colourmap::leave);
    }

    // ---- 6: way

    @Says(promise = 6, words = "Puts a way between two places, if there is none.")
    void wayIsPutOnce() {
        for (int a = 0; a < 9; a++) {
            for (int b = 0; b < 9; b++) {
                if (a != b) {
                    Colourmap x = Maps.mapOf(9);
                    x.way(a, b);
                    check.same("ways", x.ways(), 1);
                    check.yes("isWay", x.isWay(a, b) && x.isWay(b, a));
                    x.way(a, b);
                    x.way(b, a);
                    check.same("ways when put again", x.ways(), 1);
                    Colourmap full = Maps.complete(9);
                    full.way(a, b);
                    check.same("ways when all are there", full.ways(), 36);
                }
            }
        }
    }

    @Says(promise = 6, words = "Returns whether there was none.")
    void wayReturnsWhetherThereWasNone() {
        for (int a = 0; a < 9; a++) {
            for (int b = 0; b < 9; b++) {
                if (a != b) {
                    Colourmap x = Maps.mapOf(9);
                    check.yes("none there", x.way(a, b));
                    check.no("one there", x.way(a, b));
                    check.no("one there, by the other end", x.way(b, a));
                    x.tear(a, b);
                    check.yes("none there any more", x.way(b, a));
                    check.no("all there", Maps.complete(9).way(a, b));
                }
            }
        }
    }

    @Says(promise = 6, words = "Throws `IndexOutOfBoundsException` if there is no such place, for either")
    void wayNeedsPlaces() {
        needsPlaces("way", Colourmap::way);
    }

    @Says(promise = 6, words = "Throws `IllegalArgumentException` if both are the same")
    void wayNeedsTwoPlaces() {
        for (int p = 0; p < 9; p++) {
            int same = p;
            refused("way(" + p + ", the same)", ARGUMENT, () -> Maps.mapOf(9), x -> x.way(same, same));
            refused("way(" + p + ", the same)", ARGUMENT, () -> Maps.complete(9), x -> x.way(same, same));
        }
        refused("way(0, 0)", ARGUMENT, () -> Maps.mapOf(1), x -> x.way(0, 0));
    }

    // ---- 7: tear

    @Says(promise = 7, words = "Takes a way out.")
    void tearTakesOneWayOut() {
        for (int a = 0; a < 9; a++) {
            for (int b = 0; b < 9; b++) {
                if (a != b) {
                    Colourmap x = Maps.complete(9);
                    x.tear(a, b);
                    check.no("isWay", x.isWay(a, b) || x.isWay(b, a));
                    check.same("ways", x.ways(), 35);
                    Colourmap y = Maps.mapOf(9);
                    y.way(a, b);
                    y.tear(b, a);
                    check.same("map without the only way", Maps.text(y), "9");
                }
            }
        }
    }

    @Says(promise = 7, words = "Returns how many ways are left.")
    void tearReturnsTheWaysLeft() {
        Colourmap x = Maps.complete(9);
        int left = 36;
        for (int a = 0; a < 9; a++) {
            for (int b = a + 1; b < 9; b++) {
                left--;
                check.same("left", x.tear(b, a), left);
            }
        }
        check.same("left of one", Maps.row(2).tear(0, 1), 0);
    }

    @Says(promise = 7, words = "Throws `IndexOutOfBoundsException` if there is no such place, for either")
    void tearNeedsPlaces() {
        needsPlaces("tear", Colourmap::tear);
    }

    @Says(promise = 7, words = "Throws `NoSuchElementException` if there is no way between them")
    void tearNeedsAWay() {
        for (int a = 0; a < 9; a++) {
            for (int b = 0; b < 9; b++) {
                int one = a;
                int other = b;
                refused("tear(" + a + ", " + b + ")", NONE, () -> Maps.mapOf(9), x -> x.tear(one, other));
                refused("tear(" + a + ", " + b + ")", NONE, () -> fullBut(one, other), x -> x.tear(one, other));
            }
        }
        refused("tear(0, 0)", NONE, () -> Maps.mapOf(1), x -> x.tear(0, 0));
    }

    private static Colourmap fullBut(int a, int b) {
        Colourmap x = Maps.complete(9);
        if (a != b) {
            x.tear(a, b);
        }
        return x;
    }

    // ---- 8: draw

    @Says(promise = 8, words = "Draws two places together: the one has ways to all other neighbours of both then, and the other"
        + " one goes.")
    void drawGivesTheOneTheNeighboursOfBoth() {
        for (Colourmap x : Maps.samples()) {
            boolean[][] joined = Maps.joined(x);
            for (int a = 0; a < joined.length; a++) {
                for (int b = 0; b < joined.length; b++) {
                    if (a != b) {
                        Colourmap y = Maps.of(joined);
                        y.draw(a, b);
                        String told = Maps.text(joined) + " with " + a + " and " + b + " drawn together";
                        check.same(told, Maps.text(y), Maps.text(drawn(joined, a, b)));
                    }
                }
            }
        }
        // A new place has none of the ways of the one that went.
        Colourmap x = Maps.complete(9);
        x.draw(8, 0);
        x.place();
        check.same("degree of a new place", x.degree(8), 0);
    }

    private static boolean[][] drawn(boolean[][] joined, int stays, int goes) {
        int many = joined.length - 1;
        boolean[][] made = new boolean[many][many];
        for (int a = 0; a < many; a++) {
            for (int b = 0; b < many; b++) {
                int p = a < goes ? a : a + 1;
                int q = b < goes ? b : b + 1;
                boolean byOther = p == stays && joined[goes][q] || q == stays && joined[goes][p];
                made[a][b] = a != b && (joined[p][q] || byOther);
            }
        }
        return made;
    }

    @Says(promise = 8, words = "Returns how many ways there are then.")
    void drawReturnsTheWays() {
        check.same("two places alone", Maps.mapOf(2).draw(0, 1), 0);
        check.same("two neighbours alone", Maps.row(2).draw(1, 0), 0);
        check.same("nine places without ways", Maps.mapOf(9).draw(8, 0), 0);
        check.same("nine places with all ways", Maps.complete(9).draw(0, 8), 28);
        check.same("a neighbour of both counts once", Maps.row(3).draw(0, 2), 1);
        check.same("neighbours of one each", Maps.mapOf(4, "01", "23").draw(0, 2), 2);
        check.same("a ring of three", Maps.ring(3).draw(1, 2), 1);
    }

    @Says(promise = 8, words = "Throws `IndexOutOfBoundsException` if there is no such place, for either")
    void drawNeedsPlaces() {
        needsPlaces("draw", Colourmap::draw);
    }

    @Says(promise = 8, words = "Throws `IllegalArgumentException` if both are the same")
    void drawNeedsTwoPlaces() {
        for (int p = 0; p < 9; p++) {
            int same = p;
            refused("draw(" + p + ", the same)", ARGUMENT, () -> Maps.mapOf(9), x -> x.draw(same, same));
            refused("draw(" + p + ", the same)", ARGUMENT, () -> Maps.complete(9), x -> x.draw(same, same));
        }
        refused("draw(0, 0)", ARGUMENT, () -> Maps.mapOf(1), x -> x.draw(0, 0));
    }

    // ---- 9: swap

    @Says(promise = 9, words = "Lets two places change their numbers, each with its ways.")
    void swapChangesNumbers() {
        for (Colourmap x : Maps.samples()) {
            boolean[][] joined = Maps.joined(x);
            for (int a = 0; a < joined.length; a++) {
                for (int b = 0; b < joined.length; b++) {
                    Colourmap y = Maps.of(joined);
                    y.swap(a, b);
                    String told = Maps.text(joined) + " with " + a + " and " + b + " changed";
                    check.same(told, Maps.text(y), Maps.text(changed(joined, a, b)));
                }
            }
        }
    }

    private static boolean[][] changed(boolean[][] joined, int a, int b) {
        int many = joined.length;
        boolean[][] made = new boolean[many][many];
        for (int p = 0; p < many; p++) {
            for (int q = 0; q < many; q++) {
                made[p][q] = joined[p == a ? b : p == b ? a : p][q == a ? b : q == b ? a : q];
            }
        }
        return made;
    }

    @Says(promise = 9, words = "- `b`: the other one, or the same")
    void swapOfTheSame() {
        for (int p = 0; p < 9; p++) {
            for (Colourmap x : List.of(Maps.mapOf(9), Maps.row(9), Maps.complete(9))) {
                String before = Maps.text(x);
                check.same("swap(" + p + ", the same)", Check.outcome(swapping(x, p)), false);
                check.same("map", Maps.text(x), before);
            }
        }
        check.same("swap(0, 0) of one", Check.outcome(swapping(Maps.mapOf(1), 0)), false);
    }

    private static Check.Call swapping(Colourmap x, int p) {
        return () -> x.swap(p, p);
    }

    @Says(promise = 9, words = "Returns whether some two numbers have a way between them now and had none before, or the other"
        + " way round.")
    void swapReturnsWhetherAWayChanged() {
        check.no("none without ways", Maps.mapOf(9).swap(0, 8));
        check.no("none with all ways", Maps.complete(9).swap(0, 8));
        check.no("none of two neighbours alone", Maps.row(2).swap(0, 1));
        check.no("none of the ends of a row", Maps.row(3).swap(0, 2));
        check.no("none of neighbours with the same other neighbours", Maps.mapOf(4, "01", "02", "12").swap(0, 1));
        check.yes("some of neighbours with other neighbours", Maps.row(3).swap(0, 1));
        check.yes("some of an end and a place alone", Maps.mapOf(9, "01").swap(1, 8));
        check.yes("some of as many neighbours each", Maps.mapOf(4, "02", "13").swap(0, 1));
        for (Colourmap x : Maps.samples()) {
            boolean[][] joined = Maps.joined(x);
            for (int a = 0; a < joined.length; a++) {
                for (int b = 0; b < joined.length; b++) {
                    boolean due = !Maps.text(joined).equals(Maps.text(changed(joined, a, b)));
                    check.same("swap of " + Maps.text(joined) + " " + a + " " + b, Maps.of(joined).swap(a, b), due);
                }
            }
        }
    }

    @Says(promise = 9, words = "Throws `IndexOutOfBoundsException` if there is no such place, for either")
    void swapNeedsPlaces() {
        needsPlaces("swap", Colourmap::swap);
    }

    // ---- 10: others

    @Says(promise = 10, words = "Puts a way between each two places that had none, and takes all others out.")
    void othersTurnsEachWayRound() {
        for (Colourmap x : Maps.samples()) {
            boolean[][] joined = Maps.joined(x);
            x.others();
            for (int a = 0; a < joined.length; a++) {
                check.no("isWay of a place and itself", x.isWay(a, a));
                for (int b = 0; b < joined.length; b++) {
                    if (a != b) {
                        check.same("isWay of others of " + Maps.text(joined), x.isWay(a, b), !joined[a][b]);
                    }
                }
            }
        }
        Colourmap none = new Colourmap();
        none.others();
        none.place();
        none.place();
        check.same("map of places that come later", Maps.text(none), "2");
        Colourmap two = Maps.mapOf(2);
        two.others();
        two.place();
        two.place();
        check.same("map of two and places that come later", Maps.text(two), "4 01");
    }

    @Says(promise = 10, words = "Returns how many ways there are then.")
    void othersReturnsTheWays() {
        check.same("of none", new Colourmap().others(), 0);
        check.same("of one", Maps.mapOf(1).others(), 0);
        check.same("of two", Maps.mapOf(2).others(), 1);
        check.same("of nine without ways", Maps.mapOf(9).others(), 36);
        check.same("of nine with all ways", Maps.complete(9).others(), 0);
        check.same("of a ring of nine", Maps.ring(9).others(), 27);
    }

    // ---- 11: keep

    @Says(promise = 11, words = "Makes the spare map what the map is.")
    void keepMakesTheSpareMap() {
        for (Colourmap x : Maps.samples()) {
            for (Colourmap spare : List.of(new Colourmap(), Maps.complete(9), Maps.row(4))) {
                Colourmap y = withSpare(spare, x);
                String map = Maps.text(y);
                y.keep();
                check.same("map", Maps.text(y), map);
                check.same("spare map", Maps.spareText(y), map);
                // It stays so when the map changes.
                y.others();
                y.begin(y.places() == 0 ? 9 : y.places() - 1);
                check.same("spare map later", Maps.spareText(y), map);
            }
        }
    }

    @Says(promise = 11, words = "Returns how many places the spare map had.")
    void keepReturnsThePlacesBefore() {
        check.same("of a new one", new Colourmap().keep(), 0);
        for (int before = 0; before <= 9; before++) {
            for (int many = 0; many <= 9; many++) {
                Colourmap x = withSpare(Maps.complete(before), Maps.mapOf(many));
                check.same("keep of " + many + " over " + before, x.keep(), before);
                check.same("keep again", x.keep(), many);
            }
        }
    }

    // ---- 12: turn

    @Says(promise = 12, words = "Lets the map and the spare map change places.")
    void turnChangesPlaces() {
        for (Colourmap x : Maps.samples()) {
            for (Colourmap spare : List.of(new Colourmap(), Maps.complete(9), Maps.row(4))) {
                String other = Maps.text(spare);
                Colourmap y = withSpare(spare, x);
                String map = Maps.text(y);
                y.turn();
                check.same("map", Maps.text(y), other);
                y.others();
                y.others();
                y.turn();
                check.same("map once more", Maps.text(y), map);
            }
        }
    }

    @Says(promise = 12, words = "Returns whether they are different: in how many places there are, or in a way.")
    void turnReturnsWhetherTheyDiffer() {
        check.no("of a new one", new Colourmap().turn());
        for (int many = 0; many <= 9; many++) {
            for (int other = 0; other <= 9; other++) {
                Colourmap x = withSpare(Maps.mapOf(many), Maps.mapOf(other));
                check.same("turn of " + many + " and " + other, x.turn(), many != other);
            }
        }
        for (int a = 0; a < 9; a++) {
            for (int b = 0; b < a; b++) {
                check.yes("in one way more", withSpare(Maps.complete(9), fullBut(a, b)).turn());
                check.yes("in one way less", withSpare(fullBut(a, b), Maps.complete(9)).turn());
                check.no("in none", withSpare(fullBut(a, b), fullBut(b, a)).turn());
            }
        }
        check.yes("as many ways, but others", withSpare(Maps.mapOf(4, "01"), Maps.mapOf(4, "23")).turn());
        check.yes("the same but for the numbers", withSpare(Maps.mapOf(3, "01"), Maps.mapOf(3, "12")).turn());
        // What the room of a place that went held is no difference.
        Colourmap left = Maps.complete(9);
        left.keep();
        left.leave(8);
        left.turn();
        left.begin(8);
        left.others();
        check.no("one came by leaving", left.turn());
    }

    // ---- 13: beside

    @Says(promise = 13, words = "Puts the places of the spare map behind those of the map, in their order, with the ways that"
        + " are between them there, and no others.")
    void besidePutsTheSpareMapBehind() {
        for (Colourmap x : Maps.samples()) {
            for (Supplier<Colourmap> maker : BESIDE) {
                Colourmap spare = maker.get();
                if (x.places() + spare.places() <= 9) {
                    boolean[][] ahead = Maps.joined(x);
                    boolean[][] behind = Maps.joined(spare);
                    Colourmap y = withSpare(spare, Maps.of(ahead));
                    y.beside();
                    check.same("map", Maps.text(y), Maps.text(together(ahead, behind)));
                    check.same("spare map", Maps.spareText(y), Maps.text(behind));
                }
            }
        }
        Colourmap self = Maps.row(4);
        self.keep();
        self.beside();
        check.same("beside what it was", Maps.text(self), "8 01 12 23 45 56 67");
    }

    private static final List<Supplier<Colourmap>> BESIDE = List.of(
        Colourmap::new, () -> Maps.mapOf(1), () -> Maps.row(2), () -> Maps.mapOf(4, "03", "12"), () -> Maps.complete(5),
        () -> Maps.complete(9));

    private static boolean[][] together(boolean[][] ahead, boolean[][] behind) {
        int first = ahead.length;
        int many = first + behind.length;
        boolean[][] made = new boolean[many][many];
        for (int a = 0; a < many; a++) {
            for (int b = 0; b < many; b++) {
                made[a][b] = a < first && b < first && ahead[a][b]
                    || a >= first && b >= first && behind[a - first][b - first];
            }
        }
        return made;
    }

    @Says(promise = 13, words = "Returns how many places there are then.")
    void besideReturnsThePlaces() {
        for (int spare = 0; spare <= 9; spare++) {
            for (int many = 0; many + spare <= 9; many++) {
                Colourmap x = withSpare(Maps.complete(spare), Maps.row(many));
                check.same("beside of " + many + " and " + spare, x.beside(), many + spare);
            }
        }
        check.same("of a new one", new Colourmap().beside(), 0);
    }

    @Says(promise = 13, words = "Throws `IllegalStateException` if there would be more than 9")
    void besideNeedsRoom() {
        for (int spare = 0; spare <= 9; spare++) {
            for (int many = 0; many <= 9; many++) {
                int behind = spare;
                int ahead = many;
                Supplier<Colourmap> maker = () -> withSpare(Maps.complete(behind), Maps.complete(ahead));
                if (many + spare > 9) {
                    refused("beside()", STATE, maker, Colourmap::beside);
                } else {
                    check.same("beside of " + many + " and " + spare, Check.outcome(besideOf(maker)), many + spare);
                }
            }
        }
    }

    private static Check.Call besideOf(Supplier<Colourmap> maker) {
        return () -> maker.get().beside();
    }
}
