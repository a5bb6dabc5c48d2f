import java.math.BigInteger;
import java.util.NoSuchElementException;

/** For each promise of the document ordinary calls, the edges that it names, and wrong calls, which change nothing. */
public final class PromisesTest {
    private static final Class<IllegalArgumentException> ARGUMENT = IllegalArgumentException.class;
    private static final Class<IllegalStateException> STATE = IllegalStateException.class;
    private static final Class<IndexOutOfBoundsException> INDEX = IndexOutOfBoundsException.class;
    private static final Class<NoSuchElementException> NONE = NoSuchElementException.class;
    private static final Class<ArithmeticException> ARITHMETIC = ArithmeticException.class;
    private static final Class<UnsupportedOperationException> UNSUPPORTED = UnsupportedOperationException.class;
    private static final int LEAST = Integer.MIN_VALUE;
    private static final int MOST = Integer.MAX_VALUE;

    private final Check check = new Check();

    public static void main(String[] args) {
        PromisesTest test = new PromisesTest();
        test.theMap();
        test.theSpareMap();
        test.placesAndWays();
        test.sets();
        test.colours();
        test.values();
        test.directions();
        test.all();
        test.check.end("PromisesTest");
    }

    private void theMap() {
        promise1NewObject();
        promise2Begin();
        promise3Place();
        promise4Star();
        promise5Leave();
        promise6Way();
        promise7Tear();
        promise8Draw();
        promise9Swap();
        promise10Others();
    }

    private void theSpareMap() {
        promise11Keep();
        promise12Turn();
        promise13Beside();
    }

    private void placesAndWays() {
        promise14Places();
        promise15Ways();
        promise16IsWay();
        promise17Degree();
        promise18Next();
        promise19Previous();
        promise20Mean();
    }

    private void sets() {
        promise21Pieces();
        promise22Piece();
        promise23Apart();
        promise24Together();
        promise25Partings();
    }

    private void colours() {
        promise26IsTwo();
        promise27Fewest();
        promise28Colour();
        promise29Colourings();
        promise30Coefficient();
    }

    private void values() {
        promise31Value();
        promise32Round();
        promise33Bits();
        promise34Sign();
        promise35Digit();
        promise36Rest();
        promise37Compare();
    }

    private void directions() {
        promise38Directions();
        promise39Tried();
    }

    private void all() {
        promise40IsTrue();
        promise41Checksum();
    }

    private void fails(String what, Class<? extends RuntimeException> want, Colourmap x, Check.Call call) {
        long before = x.checksum();
        check.fails(what, want, call);
        check.same("checksum after " + what, x.checksum(), before);
    }

    private void promise1NewObject() {
        Colourmap x = new Colourmap();
        check.same("new: map", Maps.text(x), "0");
        check.same("new: spare map", Maps.spareText(x), "0");
        check.same("new: another one", Maps.text(Maps.mapOf(2, "01")), "2 01");
        check.same("new: not shared", Maps.text(new Colourmap()), "0");
    }

    private void promise2Begin() {
        Colourmap x = new Colourmap();
        check.same("begin(9) of a new one", x.begin(9), 0);
        check.same("begin(9): map", Maps.text(x), "9");
        x.others();
        x.keep();
        check.same("begin(3)", x.begin(3), 9);
        check.same("begin(3): map", Maps.text(x), "3");
        check.same("begin: spare map stays", Maps.spareText(x).substring(0, 7), "9 01 02");
        fails("begin(-1)", ARGUMENT, x, () -> x.begin(-1));
        fails("begin(10)", ARGUMENT, x, () -> x.begin(10));
        fails("begin(least)", ARGUMENT, x, () -> x.begin(LEAST));
        fails("begin(most)", ARGUMENT, x, () -> x.begin(MOST));
        check.same("begin(0)", x.begin(0), 3);
        check.same("begin(0): map", Maps.text(x), "0");
        check.same("begin(1)", x.begin(1), 0);
    }

    private void promise3Place() {
        Colourmap x = new Colourmap();
        for (int i = 1; i <= 9; i++) {
            check.same("place " + i, x.place(), i);
        }
        check.same("place: map", Maps.text(x), "9");
        fails("place of 9", STATE, x, x::place);
        Colourmap y = Maps.mapOf(3, "01", "12");
        check.same("place", y.place(), 4);
        check.same("place: map", Maps.text(y), "4 01 12");
    }

    private void promise4Star() {
        Colourmap x = new Colourmap();
        int ways = 0;
        for (int i = 0; i < 9; i++) {
            ways += i;
            check.same("star " + i, x.star(), ways);
        }
        fails("star of 9", STATE, x, x::star);
        Colourmap y = Maps.mapOf(3, "12");
        check.same("star", y.star(), 4);
        check.same("star: map", Maps.text(y), "4 03 12 13 23");
        Colourmap z = Maps.ring(5);
        int before = z.value(6);
        z.star();
        check.same("star: value", z.value(7), 7 * before);
    }

    private void promise5Leave() {
        Colourmap x = Maps.mapOf(5, "01", "02", "13", "24", "34", "14");
        check.same("leave(1)", x.leave(1), 3);
        check.same("leave(1): map", Maps.text(x), "4 01 13 23");
        fails("leave(-1)", INDEX, x, () -> x.leave(-1));
        fails("leave(4) of 4", INDEX, x, () -> x.leave(4));
        fails("leave(least)", INDEX, x, () -> x.leave(LEAST));
        fails("leave(most)", INDEX, x, () -> x.leave(MOST));
        check.same("leave(3)", x.leave(3), 2);
        check.same("leave(3): map", Maps.text(x), "3 01");
        check.same("leave(0)", x.leave(0), 1);
        check.same("leave(0): map", Maps.text(x), "2");
        check.same("place after leave", x.place(), 3);
        check.same("place after leave: map", Maps.text(x), "3");
        fails("leave(0) of none", INDEX, new Colourmap(), () -> new Colourmap().leave(0));
        Colourmap y = Maps.complete(9);
        check.same("leave(8) of 9", y.leave(8), 8);
        check.same("leave(0) of 8", y.leave(0), 7);
        check.same("leave: ways", y.ways(), 21);
    }

    private void promise6Way() {
        Colourmap x = Maps.mapOf(9);
        check.yes("way(0, 8)", x.way(0, 8));
        check.no("way(0, 8) again", x.way(0, 8));
        check.no("way(8, 0)", x.way(8, 0));
        check.same("way: map", Maps.text(x), "9 08");
        fails("way(3, 3)", ARGUMENT, x, () -> x.way(3, 3));
        fails("way(9, 9)", INDEX, x, () -> x.way(9, 9));
        fails("way(-1, -1)", INDEX, x, () -> x.way(-1, -1));
        fails("way(0, 9)", INDEX, x, () -> x.way(0, 9));
        fails("way(9, 0)", INDEX, x, () -> x.way(9, 0));
        fails("way(-1, 0)", INDEX, x, () -> x.way(-1, 0));
        fails("way(0, -1)", INDEX, x, () -> x.way(0, -1));
        fails("way(0, 32)", INDEX, x, () -> x.way(0, 32));
        fails("way(most, least)", INDEX, x, () -> x.way(MOST, LEAST));
    }

    private void promise7Tear() {
        Colourmap x = Maps.mapOf(4, "01", "12", "23");
        check.same("tear(2, 1)", x.tear(2, 1), 2);
        check.same("tear(2, 1): map", Maps.text(x), "4 01 23");
        fails("tear(2, 1) again", NONE, x, () -> x.tear(2, 1));
        fails("tear(0, 0)", NONE, x, () -> x.tear(0, 0));
        fails("tear(4, 4)", INDEX, x, () -> x.tear(4, 4));
        fails("tear(0, 4)", INDEX, x, () -> x.tear(0, 4));
        fails("tear(4, 0)", INDEX, x, () -> x.tear(4, 0));
        fails("tear(-1, 0)", INDEX, x, () -> x.tear(-1, 0));
        fails("tear(0, -1)", INDEX, x, () -> x.tear(0, -1));
        check.same("tear(0, 1)", x.tear(0, 1), 1);
        check.same("tear(2, 3)", x.tear(2, 3), 0);
    }

    private void promise8Draw() {
        Colourmap x = Maps.mapOf(5, "01", "12", "23", "34", "40");
        check.same("draw(3, 0)", x.draw(3, 0), 4);
        check.same("draw(3, 0): map", Maps.text(x), "4 01 02 12 23");
        check.same("draw(0, 3)", x.draw(0, 3), 3);
        check.same("draw(0, 3): map", Maps.text(x), "3 01 02 12");
        fails("draw(1, 1)", ARGUMENT, x, () -> x.draw(1, 1));
        fails("draw(3, 3)", INDEX, x, () -> x.draw(3, 3));
        fails("draw(0, 3) of 3", INDEX, x, () -> x.draw(0, 3));
        fails("draw(3, 0) of 3", INDEX, x, () -> x.draw(3, 0));
        fails("draw(-1, 0)", INDEX, x, () -> x.draw(-1, 0));
        fails("draw(0, -1)", INDEX, x, () -> x.draw(0, -1));
        check.same("draw over a way", x.draw(1, 2), 1);
        check.same("draw over a way: map", Maps.text(x), "2 01");
        check.same("draw the last two", x.draw(0, 1), 0);
        check.same("draw the last two: map", Maps.text(x), "1");
    }

    private void promise9Swap() {
        Colourmap x = Maps.mapOf(4, "01", "02", "23");
        check.yes("swap(0, 3)", x.swap(0, 3));
        check.same("swap(0, 3): map", Maps.text(x), "4 02 13 23");
        check.no("swap(2, 2)", x.swap(2, 2));
        check.no("swap of twins", Maps.mapOf(4, "02", "12", "23").swap(0, 1));
        check.no("swap of neighbours that are twins", Maps.mapOf(3, "01", "02", "12").swap(0, 1));
        check.yes("swap of neighbours", Maps.mapOf(3, "01", "12").swap(0, 1));
        check.no("swap of the ends of a row", Maps.mapOf(3, "01", "12").swap(0, 2));
        check.yes("swap of an end and a lone place", Maps.mapOf(3, "01").swap(1, 2));
        fails("swap(4, 4)", INDEX, x, () -> x.swap(4, 4));
        fails("swap(0, 4)", INDEX, x, () -> x.swap(0, 4));
        fails("swap(4, 0)", INDEX, x, () -> x.swap(4, 0));
        fails("swap(-1, 0)", INDEX, x, () -> x.swap(-1, 0));
        fails("swap(0, -1)", INDEX, x, () -> x.swap(0, -1));
    }

    private void promise10Others() {
        check.same("others of none", new Colourmap().others(), 0);
        check.same("others of one", Maps.mapOf(1).others(), 0);
        Colourmap x = Maps.mapOf(4, "01", "23");
        check.same("others", x.others(), 4);
        check.same("others: map", Maps.text(x), "4 02 03 12 13");
        check.same("others of 9", Maps.mapOf(9).others(), 36);
        check.same("others of all", Maps.complete(9).others(), 0);
    }

    private void promise11Keep() {
        Colourmap x = Maps.mapOf(3, "02");
        check.same("keep", x.keep(), 0);
        check.same("keep: spare map", Maps.spareText(x), "3 02");
        x.way(0, 1);
        check.same("keep is a copy", Maps.spareText(x), "3 02");
        check.same("keep: map", Maps.text(x), "3 01 02");
        x.begin(9);
        check.same("keep again", x.keep(), 3);
        check.same("keep of 9", x.keep(), 9);
        x.begin(0);
        x.keep();
        check.same("keep of none", x.keep(), 0);
    }

    private void promise12Turn() {
        Colourmap x = new Colourmap();
        check.no("turn of a new one", x.turn());
        x.begin(2);
        check.yes("turn of other places", x.turn());
        check.same("turn: map", Maps.text(x), "0");
        check.yes("turn back", x.turn());
        check.same("turn back: map", Maps.text(x), "2");
        x.keep();
        check.no("turn of the same", x.turn());
        x.way(0, 1);
        check.yes("turn of another way", x.turn());
        check.same("turn of another way: map", Maps.text(x), "2");
        check.same("turn of another way: spare map", Maps.spareText(x), "2 01");
        x.way(0, 1);
        check.no("turn of the same way", x.turn());
    }

    private void promise13Beside() {
        Colourmap x = Maps.mapOf(4, "01", "03", "23");
        check.same("beside of none", x.beside(), 4);
        x.keep();
        x.tear(0, 1);
        x.place();
        check.same("beside", x.beside(), 9);
        check.same("beside: map", Maps.text(x), "9 03 23 56 58 78");
        check.same("beside: spare map", Maps.spareText(x), "4 01 03 23");
        fails("beside of 9 and 4", STATE, x, x::beside);
        x.leave(0);
        fails("beside of 8 and 4", STATE, x, x::beside);
        x.begin(6);
        fails("beside of 6 and 4", STATE, x, x::beside);
        x.begin(0);
        check.same("beside: behind none", x.beside(), 4);
        check.same("beside: behind none, map", Maps.text(x), "4 01 03 23");
        Colourmap y = Maps.complete(9);
        check.same("beside of 9 and none", y.beside(), 9);
    }

    private void promise14Places() {
        check.same("places of none", new Colourmap().places(), 0);
        check.same("places of 9", Maps.mapOf(9).places(), 9);
        Colourmap x = Maps.mapOf(3);
        x.leave(0);
        check.same("places after leave", x.places(), 2);
    }

    private void promise15Ways() {
        check.same("ways of none", new Colourmap().ways(), 0);
        check.same("ways", Maps.mapOf(4, "01", "23", "03").ways(), 3);
        check.same("ways of all", Maps.complete(9).ways(), 36);
    }

    private void promise16IsWay() {
        Colourmap x = Maps.mapOf(9, "08", "34");
        check.yes("isWay(0, 8)", x.isWay(0, 8));
        check.yes("isWay(8, 0)", x.isWay(8, 0));
        check.no("isWay(3, 8)", x.isWay(3, 8));
        check.no("isWay(3, 3)", x.isWay(3, 3));
        fails("isWay(9, 9)", INDEX, x, () -> x.isWay(9, 9));
        fails("isWay(-1, 0)", INDEX, x, () -> x.isWay(-1, 0));
        fails("isWay(0, -1)", INDEX, x, () -> x.isWay(0, -1));
        fails("isWay(0, 9)", INDEX, x, () -> x.isWay(0, 9));
        fails("isWay(9, 0)", INDEX, x, () -> x.isWay(9, 0));
        fails("isWay(32, 8)", INDEX, x, () -> x.isWay(32, 8));
    }

    private void promise17Degree() {
        Colourmap x = Maps.mapOf(5, "01", "02", "03");
        check.same("degree(0)", x.degree(0), 3);
        check.same("degree(2)", x.degree(2), 1);
        check.same("degree(4)", x.degree(4), 0);
        check.same("degree of 9", Maps.complete(9).degree(8), 8);
        fails("degree(5)", INDEX, x, () -> x.degree(5));
        fails("degree(-1)", INDEX, x, () -> x.degree(-1));
    }

    private void promise18Next() {
        Colourmap x = Maps.mapOf(9, "20", "24", "28");
        check.same("next(2, 0)", x.next(2, 0), 0);
        check.same("next(2, 1)", x.next(2, 1), 4);
        check.same("next(2, 4)", x.next(2, 4), 4);
        check.same("next(2, 5)", x.next(2, 5), 8);
        check.same("next(2, 9)", x.next(2, 9), -1);
        check.same("next(2, 32)", x.next(2, 32), -1);
        check.same("next(2, most)", x.next(2, MOST), -1);
        check.same("next(3, 0)", x.next(3, 0), -1);
        fails("next(2, -1)", INDEX, x, () -> x.next(2, -1));
        fails("next(2, least)", INDEX, x, () -> x.next(2, LEAST));
        fails("next(9, 0)", INDEX, x, () -> x.next(9, 0));
        fails("next(-1, 0)", INDEX, x, () -> x.next(-1, 0));
    }

    private void promise19Previous() {
        Colourmap x = Maps.mapOf(9, "20", "24", "28");
        check.same("previous(2, 8)", x.previous(2, 8), 8);
        check.same("previous(2, 7)", x.previous(2, 7), 4);
        check.same("previous(2, 3)", x.previous(2, 3), 0);
        check.same("previous(2, 0)", x.previous(2, 0), 0);
        check.same("previous(2, -1)", x.previous(2, -1), -1);
        check.same("previous(4, 1)", x.previous(4, 1), -1);
        check.same("previous(2, 40)", x.previous(2, 40), 8);
        check.same("previous(2, most)", x.previous(2, MOST), 8);
        check.same("previous(3, 8)", x.previous(3, 8), -1);
        fails("previous(2, -2)", INDEX, x, () -> x.previous(2, -2));
        fails("previous(2, least)", INDEX, x, () -> x.previous(2, LEAST));
        fails("previous(9, 0)", INDEX, x, () -> x.previous(9, 0));
        fails("previous(-1, 0)", INDEX, x, () -> x.previous(-1, 0));
    }

    private void promise20Mean() {
        fails("mean of none", STATE, new Colourmap(), () -> new Colourmap().mean());
        check.same("mean of one", Maps.mapOf(1).mean(), 0.0);
        check.same("mean of a way", Maps.mapOf(3, "01").mean(), 2.0 / 3.0);
        check.same("mean of 7 places", Maps.mapOf(7, "01", "02", "03", "04", "05").mean(), 10.0 / 7.0);
        check.same("mean of all", Maps.complete(9).mean(), 8.0);
    }

    private void promise21Pieces() {
        check.same("pieces of none", new Colourmap().pieces(), 0);
        check.same("pieces without ways", Maps.mapOf(9).pieces(), 9);
        check.same("pieces", Maps.mapOf(6, "05", "53", "12").pieces(), 3);
        check.same("pieces of a row", Maps.mapOf(9, "84", "40", "07", "71", "15", "56", "63", "32").pieces(), 1);
        check.same("pieces of a ring", Maps.ring(9).pieces(), 1);
    }

    private void promise22Piece() {
        Colourmap x = Maps.mapOf(7, "64", "42", "53");
        check.same("piece(6)", x.piece(6), 2);
        check.same("piece(4)", x.piece(4), 2);
        check.same("piece(5)", x.piece(5), 3);
        check.same("piece(3)", x.piece(3), 3);
        check.same("piece(1)", x.piece(1), 1);
        check.same("piece of a row", Maps.mapOf(9, "87", "76", "65", "54", "43", "32", "21", "10").piece(8), 0);
        fails("piece(7)", INDEX, x, () -> x.piece(7));
        fails("piece(-1)", INDEX, x, () -> x.piece(-1));
        fails("piece(0) of none", INDEX, new Colourmap(), () -> new Colourmap().piece(0));
    }

    private void promise23Apart() {
        check.same("apart of none", new Colourmap().apart(), 0);
        check.same("apart of one", Maps.mapOf(1).apart(), 1);
        check.same("apart without ways", Maps.mapOf(9).apart(), 9);
        check.same("apart of all", Maps.complete(9).apart(), 1);
        check.same("apart of a ring of 9", Maps.ring(9).apart(), 4);
        check.same("apart of a star", Maps.mapOf(5, "40", "41", "42", "43").apart(), 4);
    }

    private void promise24Together() {
        check.same("together of none", new Colourmap().together(), 0);
        check.same("together of one", Maps.mapOf(1).together(), 1);
        check.same("together without ways", Maps.mapOf(9).together(), 1);
        check.same("together of all", Maps.complete(9).together(), 9);
        check.same("together of a ring of 9", Maps.ring(9).together(), 2);
        check.same("together", Maps.mapOf(6, "01", "23", "25", "35", "34", "45").together(), 3);
    }

    private void promise25Partings() {
        Colourmap none = new Colourmap();
        check.same("partings(0) of none", none.partings(0), 1);
        check.same("partings(1) of none", none.partings(1), 0);
        check.same("partings(9) of none", none.partings(9), 0);
        Colourmap x = Maps.mapOf(9);
        int[] due = {0, 1, 255, 3025, 7770, 6951, 2646, 462, 36, 1};
        for (int j = 0; j <= 9; j++) {
            check.same("partings(" + j + ") without ways", x.partings(j), due[j]);
            check.same("partings(" + j + ") of all", Maps.complete(9).partings(j), j == 9 ? 1 : 0);
        }
        check.same("partings(3) of a ring of 5", Maps.ring(5).partings(3), 5);
        check.same("partings(6) of 5", Maps.ring(5).partings(6), 0);
        fails("partings(-1)", ARGUMENT, x, () -> x.partings(-1));
        fails("partings(10)", ARGUMENT, x, () -> x.partings(10));
        fails("partings(most)", ARGUMENT, x, () -> x.partings(MOST));
    }

    private void promise26IsTwo() {
        check.yes("isTwo of none", new Colourmap().isTwo());
        check.yes("isTwo of one", Maps.mapOf(1).isTwo());
        check.yes("isTwo of a ring of 8", Maps.ring(8).isTwo());
        check.no("isTwo of a ring of 9", Maps.ring(9).isTwo());
        check.no("isTwo of a ring behind a way", Maps.mapOf(8, "01", "56", "67", "75").isTwo());
        check.no("isTwo of a ring far away", Maps.mapOf(9, "01", "12", "23", "34", "45", "56", "67", "78", "86").isTwo());
        check.yes("isTwo of two rings of 4", Maps.mapOf(8, "02", "24", "46", "60", "13", "35", "57", "71").isTwo());
    }

    private void promise27Fewest() {
        check.same("fewest of none", new Colourmap().fewest(), 0);
        check.same("fewest of one", Maps.mapOf(1).fewest(), 1);
        check.same("fewest without ways", Maps.mapOf(9).fewest(), 1);
        check.same("fewest of all", Maps.complete(9).fewest(), 9);
        check.same("fewest of a ring of 8", Maps.ring(8).fewest(), 2);
        check.same("fewest of a ring of 7", Maps.ring(7).fewest(), 3);
        Colourmap wheel = Maps.ring(5);
        wheel.star();
        check.same("fewest of a wheel", wheel.fewest(), 4);
    }

    private void promise28Colour() {
        // In a row 0 2 1 3 of ways the last place of the row colouring needs a third colour.
        Colourmap x = Maps.mapOf(4, "02", "23", "31");
        check.same("colour(0)", x.colour(0), 0);
        check.same("colour(1)", x.colour(1), 0);
        check.same("colour(2)", x.colour(2), 1);
        check.same("colour(3)", x.colour(3), 2);
        check.same("fewest, fewer than those", x.fewest(), 2);
        for (int p = 0; p < 9; p++) {
            check.same("colour of all " + p, Maps.complete(9).colour(p), p);
            check.same("colour without ways " + p, Maps.mapOf(9).colour(p), 0);
        }
        check.same("colour takes the gap", Maps.mapOf(4, "01", "12", "13", "23").colour(3), 2);
        check.same("colour takes the least", Maps.mapOf(4, "01", "12", "23").colour(3), 1);
        fails("colour(4)", INDEX, x, () -> x.colour(4));
        fails("colour(-1)", INDEX, x, () -> x.colour(-1));
    }

    private void promise29Colourings() {
        Colourmap none = new Colourmap();
        Colourmap x = Maps.mapOf(9);
        int[] powers = {0, 1, 512, 19683, 262144};
        int[] rings = {0, 0, 2, 258, 6564};
        for (int k = 0; k <= 4; k++) {
            check.same("colourings of none " + k, none.colourings(k), 1);
            check.same("colourings without ways " + k, x.colourings(k), powers[k]);
            check.same("colourings of a ring of 8 " + k, Maps.ring(8).colourings(k), rings[k]);
            check.same("colourings of 4 together " + k, Maps.complete(4).colourings(k), k == 4 ? 24 : 0);
        }
        fails("colourings(-1)", ARGUMENT, x, () -> x.colourings(-1));
        fails("colourings(5)", ARGUMENT, x, () -> x.colourings(5));
        fails("colourings(least)", ARGUMENT, x, () -> x.colourings(LEAST));
    }

    private void promise30Coefficient() {
        Colourmap none = new Colourmap();
        check.same("coefficient(0) of none", none.coefficient(0), 1L);
        fails("coefficient(1) of none", INDEX, none, () -> none.coefficient(1));
        long[] due = {0, 40320, -109584, 118124, -67284, 22449, -4536, 546, -36, 1};
        Colourmap x = Maps.complete(9);
        for (int i = 0; i <= 9; i++) {
            check.same("coefficient of all " + i, x.coefficient(i), due[i]);
            check.same("coefficient without ways " + i, Maps.mapOf(9).coefficient(i), i == 9 ? 1L : 0L);
        }
        fails("coefficient(10)", INDEX, x, () -> x.coefficient(10));
        fails("coefficient(-1)", INDEX, x, () -> x.coefficient(-1));
        Colourmap y = Maps.ring(4);
        check.same("coefficient(2) of a ring", y.coefficient(2), 6L);
        fails("coefficient(5) of 4", INDEX, y, () -> y.coefficient(5));
        y.tear(0, 1);
        check.same("coefficient(2) after tear", y.coefficient(2), 3L);
    }

    private void promise31Value() {
        Colourmap none = new Colourmap();
        check.same("value(least) of none", none.value(LEAST), 1);
        Colourmap one = Maps.mapOf(1);
        check.same("value(least) of one", one.value(LEAST), LEAST);
        check.same("value(most) of one", one.value(MOST), MOST);
        Colourmap two = Maps.mapOf(2);
        check.same("value(46340) of two", two.value(46340), 2147395600);
        fails("value(46341) of two", ARITHMETIC, two, () -> two.value(46341));
        fails("value(-46341) of two", ARITHMETIC, two, () -> two.value(-46341));
        fails("value(65536) of two", ARITHMETIC, two, () -> two.value(65536));
        Colourmap three = Maps.mapOf(3);
        check.same("value(-1290) of three", three.value(-1290), -2146689000);
        fails("value(-1291) of three", ARITHMETIC, three, () -> three.value(-1291));
        Colourmap x = Maps.complete(9);
        check.same("value(8) of all", x.value(8), 0);
        check.same("value(9) of all", x.value(9), 362880);
        check.same("value(-1) of all", x.value(-1), -362880);
        check.same("value(14) of all", x.value(14), 726485760);
        fails("value(least) of all", ARITHMETIC, x, () -> x.value(LEAST));
        fails("value(most) of all", ARITHMETIC, x, () -> x.value(MOST));
    }

    private void promise32Round() {
        Colourmap x = Maps.mapOf(3);
        check.same("round(10)", x.round(10), 1000L);
        check.same("round(-10)", x.round(-10), -1000L);
        check.same("round(most) of three", x.round(MOST), (long) MOST * MOST * MOST);
        check.same("round(least) of two", Maps.mapOf(2).round(LEAST), 1L << 62);
        check.same("round(least) of three", x.round(LEAST), 0L);
        check.same("round(-1000000) of all", Maps.complete(9).round(-1000000), valueOfAll(-1000000).longValue());
        check.same("round of none", new Colourmap().round(LEAST), 1L);
    }

    private void promise33Bits() {
        check.same("bits(8) of all", Maps.complete(9).bits(8), 0);
        check.same("bits of none", new Colourmap().bits(7), 1);
        Colourmap x = Maps.mapOf(1);
        check.same("bits(-1)", x.bits(-1), 1);
        check.same("bits(255)", x.bits(255), 8);
        check.same("bits(256)", x.bits(256), 9);
        check.same("bits(-256)", x.bits(-256), 9);
        check.same("bits(least)", x.bits(LEAST), 32);
        check.same("bits(most)", x.bits(MOST), 31);
        check.same("bits(least) of 9", Maps.mapOf(9).bits(LEAST), 280);
        check.same("bits(most) of 9", Maps.mapOf(9).bits(MOST), 279);
        check.same("bits(least) of all", Maps.complete(9).bits(LEAST), 280);
    }

    private void promise34Sign() {
        check.same("sign of none", new Colourmap().sign(LEAST), 1);
        check.same("sign(0)", Maps.mapOf(1).sign(0), 0);
        check.same("sign(least) of 9", Maps.complete(9).sign(LEAST), -1);
        check.same("sign(least) of 8", Maps.complete(8).sign(LEAST), 1);
        check.same("sign(8) of 9", Maps.complete(9).sign(8), 0);
        check.same("sign(9) of 9", Maps.complete(9).sign(9), 1);
        check.same("sign(-1)", Maps.mapOf(3, "01").sign(-1), -1);
    }

    private void promise35Digit() {
        Colourmap x = Maps.mapOf(1);
        int[] due = {8, 4, 6, 3, 8, 4, 7, 4, 1, 2, 0};
        for (int i = 0; i < due.length; i++) {
            check.same("digit(least, " + i + ")", x.digit(LEAST, i), due[i]);
        }
        Colourmap all = Maps.complete(9);
        String digits = valueOfAll(LEAST).abs().toString();
        for (int i = 0; i <= 99; i++) {
            int want = i < digits.length() ? digits.charAt(digits.length() - 1 - i) - '0' : 0;
            check.same("digit(least, " + i + ") of all", all.digit(LEAST, i), want);
        }
        fails("digit(1, -1)", INDEX, x, () -> x.digit(1, -1));
        fails("digit(1, 100)", INDEX, x, () -> x.digit(1, 100));
        fails("digit(1, most)", INDEX, x, () -> x.digit(1, MOST));
    }

    private void promise36Rest() {
        Colourmap x = Maps.mapOf(3);
        check.same("rest(10, 7)", x.rest(10, 7), 6);
        check.same("rest(-10, 7)", x.rest(-10, 7), 1);
        check.same("rest(-7, 7)", x.rest(-7, 7), 0);
        check.same("rest(5, 1)", x.rest(5, 1), 0);
        check.same("rest of none by 1", new Colourmap().rest(5, 1), 0);
        check.same("rest of none by 2", new Colourmap().rest(5, 2), 1);
        check.same("rest(least, most)", x.rest(LEAST, MOST), MOST - 1);
        check.same("rest(most - 1, most)", x.rest(MOST - 1, MOST), MOST - 1);
        check.same("rest of all", Maps.complete(9).rest(LEAST, 1000003),
            valueOfAll(LEAST).mod(BigInteger.valueOf(1000003)).intValue());
        fails("rest(5, 0)", ARITHMETIC, x, () -> x.rest(5, 0));
        fails("rest(5, -1)", ARITHMETIC, x, () -> x.rest(5, -1));
        fails("rest(5, least)", ARITHMETIC, x, () -> x.rest(5, LEAST));
    }

    private void promise37Compare() {
        Colourmap x = Maps.complete(9);
        check.same("compare(0, 8)", x.compare(0, 8), 0);
        check.same("compare(8, 9)", x.compare(8, 9), -1);
        check.same("compare(9, 8)", x.compare(9, 8), 1);
        check.same("compare(least, least + 1)", x.compare(LEAST, LEAST + 1), -1);
        check.same("compare(most, least)", x.compare(MOST, LEAST), 1);
        check.same("compare(least, most)", x.compare(LEAST, MOST), -1);
        check.same("compare(most, most - 1)", x.compare(MOST, MOST - 1), 1);
        check.same("compare(-1, 0)", x.compare(-1, 0), -1);
        check.same("compare of none", new Colourmap().compare(LEAST, MOST), 0);
        check.same("compare of two", Maps.mapOf(2).compare(-5, 5), 0);
        check.same("compare of two, below 0", Maps.mapOf(2).compare(LEAST, MOST), 1);
    }

    private void promise38Directions() {
        check.same("directions of none", new Colourmap().directions(), 1L);
        check.same("directions without ways", Maps.mapOf(9).directions(), 1L);
        check.same("directions of a ring of 9", Maps.ring(9).directions(), 510L);
        check.same("directions of all", Maps.complete(9).directions(), 362880L);
        check.same("directions of 8", Maps.complete(8).directions(), 40320L);
    }

    private void promise39Tried() {
        check.same("tried of none", new Colourmap().tried(), 1);
        check.same("tried without ways", Maps.mapOf(9).tried(), 1);
        check.same("tried of a ring of 9", Maps.ring(9).tried(), 510);
        check.same("tried of 10 ways", Maps.complete(5).tried(), 120);
        Colourmap x = Maps.complete(5);
        x.place();
        x.way(0, 5);
        fails("tried of 11 ways", UNSUPPORTED, x, x::tried);
        fails("tried of 36 ways", UNSUPPORTED, Maps.complete(9), () -> Maps.complete(9).tried());
        x.tear(0, 1);
        check.same("tried of 10 ways again", x.tried(), 192);
    }

    private void promise40IsTrue() {
        Colourmap x = new Colourmap();
        check.yes("isTrue of none", x.isTrue());
        x.begin(9);
        check.yes("isTrue without ways", x.isTrue());
        x.way(7, 8);
        long before = x.checksum();
        check.yes("isTrue of one way", x.isTrue());
        check.same("isTrue changes nothing", x.checksum(), before);
        check.same("isTrue changes nothing of the map", Maps.text(x), "9 78");
        for (int places = 1; places <= 9; places++) {
            check.yes("isTrue of all " + places, Maps.complete(places).isTrue());
        }
        for (int places = 3; places <= 9; places++) {
            check.yes("isTrue of a ring " + places, Maps.ring(places).isTrue());
        }
    }

    private void promise41Checksum() {
        // 7, then 0 places, the coefficient 1, 0 colours, and 0 places of the spare map.
        check.same("checksum of none", new Colourmap().checksum(), ((7L * 31 * 31 + 1) * 31) * 31);
        Colourmap x = Maps.mapOf(2, "01");
        long sum = 7;
        for (long number : new long[] {2, 2, 1, 0, -1, 1, 2, 0}) {
            sum = 31 * sum + number;
        }
        check.same("checksum of a way", x.checksum(), sum);
        x.keep();
        x.begin(1);
        sum = 7;
        for (long number : new long[] {1, 0, 0, 1, 1, 2, 2, 1}) {
            sum = 31 * sum + number;
        }
        check.same("checksum with a spare map", x.checksum(), sum);
    }

    /** The value of nine places, each with ways to all others, by its factors. */
    private static BigInteger valueOfAll(int k) {
        BigInteger product = BigInteger.ONE;
        for (int i = 0; i < 9; i++) {
            product = product.multiply(BigInteger.valueOf((long) k - i));
        }
        return product;
    }
}
