import java.util.function.Supplier;
import java.util.function.ToIntFunction;

/** The sentences of the document's terms that name a boundary: each part bears the sentence that it tests. */
public final class EdgesOfTermsTest {
    private static final int NO_SUCH = -1, BAD_VALUE = -2, BAD_TEXT = -3, TOO_MANY = -4, NOT_POSSIBLE = -5, NONE = -6;
    private static final int I = 0, L = 1, O = 2, T = 3, U = 4, E = 5, H = 6, S = 7;

    public static void main(String[] args) {
        Due due = new Due("EdgesOfTermsTest");
        due.part("used for at most 512 calls: changes", EdgesOfTermsTest::lastOf512Changes);
        due.part("used for at most 512 calls: texts", EdgesOfTermsTest::lastOf512Texts);
        due.part("a call that returns an error changes nothing: changes", EdgesOfTermsTest::refusedChanges);
        due.part("a call that returns an error changes nothing: at the bounds", EdgesOfTermsTest::refusedAtBounds);
        due.part("a call that returns an error changes nothing: questions", EdgesOfTermsTest::refusedQuestions);
        due.part("NONE is returned only if no error applies", EdgesOfTermsTest::noneOnlyWithoutError);
        due.part("everything is numbered from 0", EdgesOfTermsTest::numberedFromZero);
        due.part("sets are bit masks", EdgesOfTermsTest::setsAreBitMasks);
        due.part("there are 8 letters, 0 to 7", EdgesOfTermsTest::eightLetters);
        due.part("a letter has 5 rows of 3 squares", EdgesOfTermsTest::rowsOfLetters);
        due.part("8 ways, 0 to 7", EdgesOfTermsTest::eightWays);
        due.part("from 4 on it is mirrored", EdgesOfTermsTest::mirroredFromFourOn);
        due.part("w left over by 4 quarter turns", EdgesOfTermsTest::turnsStartAgainAtFour);
        due.part("with an odd number of quarter turns it has 3 rows of 5", EdgesOfTermsTest::threeRowsOfFive);
        due.part("up to 6 sheets so far", EdgesOfTermsTest::sixSheets);
        due.part("9 rows, 0 to 8, of 14 columns, 0 to 13", EdgesOfTermsTest::nineRowsOfFourteen);
        due.part("all rows and columns have to be on the sheet", EdgesOfTermsTest::allOnTheSheet);
        due.part("also the squares that it does not have", EdgesOfTermsTest::alsoSquaresNotHad);
        due.part("its own squares must not have been cut yet", EdgesOfTermsTest::ownSquaresNotCut);
        due.part("they are cut then", EdgesOfTermsTest::theyAreCutThen);
        due.part("nothing is cut from a scrapped sheet any more", EdgesOfTermsTest::nothingFromScrapped);
        due.part("its squares that were not cut are waste", EdgesOfTermsTest::uncutSquaresAreWaste);
        due.part("the first place, row by row", EdgesOfTermsTest::rowByRow);
        due.part("of a row from the lowest column on", EdgesOfTermsTest::lowestColumn);
        due.part("there the lowest such way", EdgesOfTermsTest::lowestWay);
        due.part("in some way, mirrored or not as told", EdgesOfTermsTest::mirroredAsTold);
        due.part("the first fit may be the last place", EdgesOfTermsTest::lastPlace);
        due.part("up to 48 pieces so far", EdgesOfTermsTest::fortyEightPieces);
        due.part("loose, in a pane or waste, with all its squares", EdgesOfTermsTest::withAllItsSquares);
        due.part("3 panes, each with 12 places", EdgesOfTermsTest::threePanesOfTwelve);
        due.part("a place has one piece at most", EdgesOfTermsTest::onePieceAtMost);
        due.end();
    }

    // ---- conventions

    private static void lastOf512Changes(Due due) {
        WindowLetters x = new WindowLetters();
        due.is("call 1", x.sheet(1), 0);
        for (int call = 2; call <= 510; call++) {
            due.is("call " + call, call % 2 == 0 ? x.make(1, S, 1) : x.undo(), call % 2 == 0 ? 0 : 1);
        }
        due.is("call 511", x.of(0, 7), 4);
        due.is("call 512", x.cut(0, I, 3, 6, 9), 1);
    }

    private static void lastOf512Texts(Due due) {
        WindowLetters x = new WindowLetters();
        for (int call = 1; call <= 510; call += 2) {
            due.is("call " + call, x.put(Due.number("ilotuehs")), 8);
            due.is("call " + (call + 1), x.wipe(), 8);
        }
        due.is("call 511", x.put('x'), 1);
        due.is("call 512", x.fault(), 0);
    }

    /** A shop in which each thing is there: pieces of each kind, a scrapped sheet, a pad, a slot, a history. */
    private static WindowLetters busy() {
        WindowLetters x = Due.shop(1, 2, 1, 3);
        x.make(1, L, 0);
        x.save(1);
        x.make(2, O, 1);
        x.make(1, T, 0);
        x.place(1, 0, 11);
        x.throwAway(2);
        x.scrap(3);
        x.put(Due.number("ill"));
        return x;
    }

    private static void refusedChanges(Due due) {
        Supplier<WindowLetters> busy = EdgesOfTermsTest::busy;
        due.refuses("sheet(0)", BAD_VALUE, busy, x -> x.sheet(0));
        due.refuses("cut(4, I, 0, 0, 3)", NO_SUCH, busy, x -> x.cut(4, I, 0, 0, 3));
        due.refuses("cut(0, I, 8, 0, 3)", BAD_VALUE, busy, x -> x.cut(0, I, 8, 0, 3));
        due.refuses("cut(0, O, 0, 0, 0)", NOT_POSSIBLE, busy, x -> x.cut(0, O, 0, 0, 0));
        due.refuses("cut(0, O, 0, 5, 5)", NOT_POSSIBLE, busy, x -> x.cut(0, O, 0, 5, 5));
        due.refuses("cut(3, O, 0, 0, 5)", NOT_POSSIBLE, busy, x -> x.cut(3, O, 0, 0, 5));
        due.refuses("make(1, 8, 0)", NO_SUCH, busy, x -> x.make(1, 8, 0));
        due.refuses("make(1, I, 2)", BAD_VALUE, busy, x -> x.make(1, I, 2));
        due.refuses("make(3, I, 0)", NOT_POSSIBLE, busy, x -> x.make(3, I, 0));
        due.refuses("write(3, 0, 1, 0)", NO_SUCH, busy, x -> x.write(3, 0, 1, 0));
        due.refuses("write(0, 0, 5, 0)", BAD_VALUE, busy, x -> x.write(0, 0, 5, 0));
        due.refuses("write(0, 9, 1, 0)", NOT_POSSIBLE, busy, x -> x.write(0, 9, 1, 0));
        due.refuses("write(1, 10, 1, 0)", NOT_POSSIBLE, busy, x -> x.write(1, 10, 1, 0));
        due.refuses("write(1, 0, 3, 0)", NOT_POSSIBLE, busy, x -> x.write(1, 0, 3, 0));
        due.refuses("place(3, 0, 0)", NO_SUCH, busy, x -> x.place(3, 0, 0));
        due.refuses("place(0, 0, 11)", NOT_POSSIBLE, busy, x -> x.place(0, 0, 11));
        due.refuses("place(1, 0, 0)", NOT_POSSIBLE, busy, x -> x.place(1, 0, 0));
        due.refuses("clear(3)", NO_SUCH, busy, x -> x.clear(3));
        due.refuses("throwAway(3)", NO_SUCH, busy, x -> x.throwAway(3));
        due.refuses("throwAway(1)", NOT_POSSIBLE, busy, x -> x.throwAway(1));
        due.refuses("throwAway(2)", NOT_POSSIBLE, busy, x -> x.throwAway(2));
        due.refuses("scrap(4)", NO_SUCH, busy, x -> x.scrap(4));
        due.refuses("scrap(3)", NOT_POSSIBLE, busy, x -> x.scrap(3));
        due.refuses("put(0)", BAD_VALUE, busy, x -> x.put(0));
        due.refuses("put of a good and a bad sign", BAD_VALUE, busy, x -> x.put('i' << 8 | 127));
        due.refuses("save(2)", BAD_VALUE, busy, x -> x.save(2));
        due.refuses("restore(2)", BAD_VALUE, busy, x -> x.restore(2));
        due.refuses("restore(0)", NOT_POSSIBLE, busy, x -> x.restore(0));
    }

    private static WindowLetters withPad(WindowLetters x, String text) {
        Due.pad(x, text);
        return x;
    }

    private static void refusedAtBounds(Due due) {
        due.refuses("sheet(1), the seventh", TOO_MANY, () -> Due.shop(1, 1, 1, 1, 1, 1), x -> x.sheet(1));
        Supplier<WindowLetters> full = () -> withPad(Due.fullShop(), "iio");
        due.refuses("cut(3, I, 1, 6, 0), the 49th", TOO_MANY, full, x -> x.cut(3, I, 1, 6, 0));
        due.refuses("make(1, I, 0), the 49th", TOO_MANY, full, x -> x.make(1, I, 0));
        due.refuses("write(0, 0, 1, 0) with a 49th", NOT_POSSIBLE, full, x -> x.write(0, 0, 1, 0));
        Supplier<WindowLetters> nothing = WindowLetters::new;
        due.refuses("write(0, 0, 1, 0) without a text", BAD_TEXT, nothing, x -> x.write(0, 0, 1, 0));
        due.refuses("undo() without a history", NOT_POSSIBLE, nothing, WindowLetters::undo);
        due.refuses("restore(1) without a saved state", NOT_POSSIBLE, nothing, x -> x.restore(1));
        Supplier<WindowLetters> longPad = () -> withPad(Due.shop(1), "i".repeat(79));
        due.refuses("put of two to 79", TOO_MANY, longPad, x -> x.put(Due.number("il")));
        Supplier<WindowLetters> badPad = () -> withPad(Due.shop(1), "hallo");
        due.refuses("write(0, 0, 1, 0) of a bad text", BAD_TEXT, badPad, x -> x.write(0, 0, 1, 0));
        due.refuses("colours(0, 0, 0) of a bad text", BAD_TEXT, badPad, x -> x.colours(0, 0, 0));
    }

    private static void refusedQuestions(Due due) {
        Supplier<WindowLetters> busy = EdgesOfTermsTest::busy;
        due.refuses("of(3, 0)", NO_SUCH, busy, x -> x.of(3, 0));
        due.refuses("of(0, 8)", BAD_VALUE, busy, x -> x.of(0, 8));
        due.refuses("ofSheet(4, 0)", NO_SUCH, busy, x -> x.ofSheet(4, 0));
        due.refuses("ofSheet(0, 5)", BAD_VALUE, busy, x -> x.ofSheet(0, 5));
        due.refuses("row(0, 9)", NO_SUCH, busy, x -> x.row(0, 9));
        due.refuses("pane(0, 12)", NO_SUCH, busy, x -> x.pane(0, 12));
        due.refuses("shape(8, 0, 0)", NO_SUCH, busy, x -> x.shape(8, 0, 0));
        due.refuses("shape(0, 8, 0)", BAD_VALUE, busy, x -> x.shape(0, 8, 0));
        due.refuses("count(10)", BAD_VALUE, busy, x -> x.count(10));
        due.refuses("fit(4, I, 0, 0)", NO_SUCH, busy, x -> x.fit(4, I, 0, 0));
        due.refuses("fit(0, I, 2, 0)", BAD_VALUE, busy, x -> x.fit(0, I, 2, 0));
        due.refuses("manyOf(0, 8, 0)", NO_SUCH, busy, x -> x.manyOf(0, 8, 0));
        due.refuses("manyOf(0, I, 2)", BAD_VALUE, busy, x -> x.manyOf(0, I, 2));
        due.refuses("fits(4, I)", NO_SUCH, busy, x -> x.fits(4, I));
        due.refuses("colours(3, 0, 0)", NO_SUCH, busy, x -> x.colours(3, 0, 0));
        due.refuses("colours(0, 0, 2)", BAD_VALUE, busy, x -> x.colours(0, 0, 2));
    }

    private static void noneOnlyWithoutError(Due due) {
        WindowLetters x = Due.shop(1);
        x.scrap(0);
        due.is("a scrapped sheet, but no letter", x.fit(0, 8, 0, 0), NO_SUCH);
        due.is("a scrapped sheet, but mirrored 2", x.fit(0, I, 2, 0), BAD_VALUE);
        due.is("a scrapped sheet, but what 3", x.fit(0, I, 0, 3), BAD_VALUE);
        due.is("a scrapped sheet alone", x.fit(0, I, 0, 0), NONE);
        due.is("an empty place of no pane", x.pane(3, 0), NO_SUCH);
        due.is("an empty place that is none", x.pane(0, 12), NO_SUCH);
        due.is("an empty place alone", x.pane(0, 11), NONE);
        due.is("no piece's place", x.of(0, 4), NO_SUCH);
    }

    private static void numberedFromZero(Due due) {
        WindowLetters x = new WindowLetters();
        due.is("the first sheet", x.sheet(4), 0);
        due.is("the first piece, letter, way, row and column", x.cut(0, 0, 0, 0, 0), 0);
        due.is("the first pane and place", x.place(0, 0, 0), 1);
        due.is("its place", x.of(0, 4), 0);
        due.is("its sheet", x.of(0, 5), 0);
        due.is("its row and column", x.of(0, 6), 0);
        due.is("its way", x.of(0, 7), 0);
        due.is("the first slot", x.save(0), 1);
        due.is("the first character", withPad(x, "x").fault(), 0);
    }

    private static void setsAreBitMasks(Due due) {
        WindowLetters x = Due.shop(1, 4);
        due.is("the letters 0 to 7", x.ofSheet(0, 4), 255);
        x.cut(0, I, 1, 0, 0);
        due.is("the columns 0 to 4", x.row(0, 1), 31);
        x.cut(0, I, 1, 0, 9);
        due.is("the columns 9 to 13, too", x.row(0, 1), 31 | 31 << 9);
        due.is("the colours 1 and 4", withPad(x, "i").colours(0, 0, 0), 18);
    }

    // ---- letters

    private static void eightLetters(Due due) {
        due.bounds("cut(0, letter, 0, 0, 0)", 0, 7, NO_SUCH, letter -> Due.shop(1).cut(0, letter, 0, 0, 0));
        due.bounds("make(1, letter, 0)", 0, 7, NO_SUCH, letter -> Due.shop(1).make(1, letter, 0));
        due.bounds("shape(letter, 0, 0)", 0, 7, NO_SUCH, letter -> new WindowLetters().shape(letter, 0, 0));
        due.bounds("fit(0, letter, 0, 0)", 0, 7, NO_SUCH, letter -> Due.shop(1).fit(0, letter, 0, 0));
        due.bounds("manyOf(0, letter, 0)", 0, 7, NO_SUCH, letter -> Due.shop(1).manyOf(0, letter, 0));
        due.bounds("fits(0, letter)", 0, 7, NO_SUCH, letter -> Due.shop(1).fits(0, letter));
    }

    /** The digits count 4 for the left square, a set of columns 1, and both count 2 for the middle one. */
    private static void rowsOfLetters(Due due) {
        String[] digits = {"22222", "44447", "75557", "72222", "55557", "74747", "55755", "74717"};
        int[] setOf = {0, 4, 2, 6, 1, 5, 3, 7};
        WindowLetters x = new WindowLetters();
        for (int letter = 0; letter < 8; letter++) {
            for (int row = 0; row < 5; row++) {
                int set = setOf[digits[letter].charAt(row) - '0'];
                due.is("shape(" + letter + ", 0, " + row + ")", x.shape(letter, 0, row), set);
            }
        }
    }

    private static void eightWays(Due due) {
        due.bounds("cut(0, L, way, 0, 0)", 0, 7, BAD_VALUE, way -> Due.shop(1).cut(0, L, way, 0, 0));
        due.bounds("shape(L, way, 0)", 0, 7, BAD_VALUE, way -> new WindowLetters().shape(L, way, 0));
        int[] firstRows = {1, 31, 7, 16, 4, 1, 7, 31};
        int[] lastRows = {7, 1, 4, 31, 7, 31, 1, 16};
        WindowLetters x = new WindowLetters();
        for (int way = 0; way < 8; way++) {
            due.is("the first row of the way " + way, x.shape(L, way, 0), firstRows[way]);
            due.is("the last row of the way " + way, x.shape(L, way, way % 2 == 0 ? 4 : 2), lastRows[way]);
        }
    }

    private static void mirroredFromFourOn(Due due) {
        for (int way = 0; way < 8; way++) {
            WindowLetters x = Due.shop(1);
            x.cut(0, L, way, 0, 0);
            due.is("whether the way " + way + " is mirrored", x.of(0, 2), way < 4 ? 0 : 1);
        }
        WindowLetters x = new WindowLetters();
        due.is("the S of the way 3", x.shape(S, 3, 0), 29);
        due.is("the S of the way 4", x.shape(S, 4, 1), 4);
    }

    private static void turnsStartAgainAtFour(Due due) {
        WindowLetters x = new WindowLetters();
        for (int letter = 0; letter < 8; letter++) {
            for (int row = 0; row < 5; row++) {
                int upright = x.shape(letter, 0, row);
                int mirrored = upright & 2 | upright >> 2 | (upright & 1) << 2;
                due.is("shape(" + letter + ", 4, " + row + ")", x.shape(letter, 4, row), mirrored);
            }
        }
    }

    private static void threeRowsOfFive(Due due) {
        WindowLetters x = new WindowLetters();
        for (int way = 0; way < 8; way++) {
            boolean lies = way % 2 == 1;
            due.is("the third row of the way " + way, x.shape(O, way, 2), lies ? 31 : 5);
            due.is("the fourth row of the way " + way, x.shape(O, way, 3), lies ? 0 : 5);
            due.is("the fifth row of the way " + way, x.shape(O, way, 4), lies ? 0 : 7);
        }
    }

    // ---- sheets

    private static void sixSheets(Due due) {
        WindowLetters x = Due.shop(1, 2, 3, 4, 1);
        due.is("the sixth", x.sheet(2), 5);
        due.is("its colour", x.ofSheet(5, 0), 2);
        due.is("the seventh", x.sheet(2), TOO_MANY);
        x.scrap(0);
        due.is("the seventh when one is scrapped, as six have been", x.sheet(2), TOO_MANY);
        due.is("sheets so far", x.count(0), 6);
    }

    private static void nineRowsOfFourteen(Due due) {
        WindowLetters x = Due.shop(1);
        due.is("squares", x.ofSheet(0, 1), 9 * 14);
        int[][] corners = {{0, 0}, {0, 11}, {4, 0}, {4, 11}};
        for (int[] corner : corners) {
            due.is("an O at " + corner[0] + ", " + corner[1], Due.shop(1).cut(0, O, 0, corner[0], corner[1]), 0);
        }
        CutSheets.cut(x, 0, CutSheets.WHOLE);
        for (int row = 0; row < 9; row++) {
            due.is("all columns of the row " + row, x.row(0, row), (1 << 14) - 1);
        }
        due.is("the row 9", x.row(0, 9), NO_SUCH);
        due.is("squares left", x.ofSheet(0, 1), 0);
    }

    private static void allOnTheSheet(Due due) {
        due.bounds("cut(0, O, 0, row, 5)", 0, 4, NOT_POSSIBLE, row -> Due.shop(1).cut(0, O, 0, row, 5));
        due.bounds("cut(0, O, 0, 2, column)", 0, 11, NOT_POSSIBLE, column -> Due.shop(1).cut(0, O, 0, 2, column));
        due.bounds("cut(0, O, 1, row, 5)", 0, 6, NOT_POSSIBLE, row -> Due.shop(1).cut(0, O, 1, row, 5));
        due.bounds("cut(0, O, 1, 2, column)", 0, 9, NOT_POSSIBLE, column -> Due.shop(1).cut(0, O, 1, 2, column));
    }

    /** An I's own squares would be on the sheet one row or column further out. */
    private static void alsoSquaresNotHad(Due due) {
        due.is("upright beyond the left edge", Due.shop(1).cut(0, I, 0, 0, -1), NOT_POSSIBLE);
        due.is("upright beyond the right edge", Due.shop(1).cut(0, I, 0, 0, 12), NOT_POSSIBLE);
        due.is("lying beyond the upper edge", Due.shop(1).cut(0, I, 1, -1, 0), NOT_POSSIBLE);
        due.is("lying beyond the lower edge", Due.shop(1).cut(0, I, 1, 7, 0), NOT_POSSIBLE);
        due.is("places and ways of I's", Due.shop(1).fits(0, I), 4 * (5 * 12 + 7 * 10));
        WindowLetters x = CutSheets.shop(CutSheets.BUT_LAST_UPRIGHT);
        due.is("in the middle of the corner", x.cut(0, I, 0, 4, 11), 17);
        due.is("then at its left, over cut squares", x.fit(0, I, 0, 2), 10);
        due.is("nowhere else, as the last column is the edge", x.fits(0, I), 4);
    }

    /** An H at the lower edge, of which the gap above and the right side are used by others. */
    private static void ownSquaresNotCut(Due due) {
        WindowLetters x = Due.shop(1);
        x.cut(0, H, 0, 4, 5);
        due.is("one square in common, above", x.cut(0, I, 0, 0, 4), NOT_POSSIBLE);
        due.is("one square in common, at the left", x.cut(0, I, 1, 4, 1), NOT_POSSIBLE);
        due.is("one square in common, at the right", x.cut(0, I, 1, 4, 7), NOT_POSSIBLE);
        due.is("one square in common, in the gap", x.cut(0, I, 0, 2, 5), NOT_POSSIBLE);
        due.is("into the gap as far as it goes", x.cut(0, I, 0, 1, 5), 1);
        due.is("close by at the left", x.cut(0, I, 1, 4, 0), 2);
        due.is("close by at the right, with its empty column over the H", x.cut(0, I, 0, 4, 7), 3);
        due.is("the same once more", x.cut(0, I, 0, 4, 7), NOT_POSSIBLE);
    }

    private static void theyAreCutThen(Due due) {
        WindowLetters x = Due.shop(1, 1);
        x.cut(0, S, 1, 6, 9);
        due.is("the row above", x.row(0, 5), 0);
        due.is("the first row", x.row(0, 6), 29 << 9);
        due.is("the second row", x.row(0, 7), 21 << 9);
        due.is("the last row", x.row(0, 8), 23 << 9);
        due.is("squares left", x.ofSheet(0, 1), 126 - 11);
        due.is("squares left of the other sheet", x.ofSheet(1, 1), 126);
    }

    private static void nothingFromScrapped(Due due) {
        WindowLetters x = withPad(Due.shop(1, 1), "i");
        x.scrap(0);
        due.is("cut", x.cut(0, I, 0, 0, 0), NOT_POSSIBLE);
        due.is("fit", x.fit(0, I, 0, 0), NONE);
        due.is("fits", x.fits(0, I), 0);
        due.is("manyOf", x.manyOf(0, I, 0), 0);
        due.is("letters that fit", x.ofSheet(0, 4), 0);
        due.is("make takes the next sheet", x.of(x.make(1, O, 0), 5), 1);
        x.scrap(1);
        due.is("make without another sheet", x.make(1, I, 0), NOT_POSSIBLE);
        due.is("colours without another sheet", x.colours(0, 0, 0), 0);
        due.is("write without another sheet", x.write(0, 0, 1, 0), NOT_POSSIBLE);
        due.is("what was cut stays cut", x.row(1, 0), 7);
    }

    private static void uncutSquaresAreWaste(Due due) {
        WindowLetters x = Due.shop(1, 2);
        x.make(1, O, 0);
        due.is("scrap(0)", x.scrap(0), 126 - 12);
        due.is("squares of waste", x.count(5), 126 - 12);
        due.is("squares that can be cut yet", x.count(6), 126);
        due.is("the piece is no waste", x.of(0, 3), 0);
    }

    // ---- the first fit

    /** The second row is cut from the column 0 to 9: O's fit in the first rows from the column 10 on alone. */
    private static void rowByRow(Due due) {
        WindowLetters x = Due.shop(1);
        x.cut(0, I, 1, 0, 0);
        x.cut(0, I, 1, 0, 5);
        due.is("it fits lower at the left, too", x.cut(0, O, 0, 2, 0), 2);
        x.undo();
        expectFit(due, x, O, 0, 0, 10, 0);
    }

    /** With the third row cut from the column 0 to 4 no O is there; with the fourth one it lies there. */
    private static void lowestColumn(Due due) {
        WindowLetters x = Due.shop(1);
        x.cut(0, I, 1, 1, 0);
        expectFit(due, x, O, 0, 0, 5, 0);
        x.undo();
        x.cut(0, I, 1, 2, 0);
        due.is("it stands further right, in a lower way", x.cut(0, O, 0, 0, 5), 1);
        x.undo();
        expectFit(due, x, O, 0, 0, 0, 1);
        expectFit(due, x, O, 1, 0, 0, 5);
    }

    /** Two pieces leave some ways for an L at its first place, of which it takes the lowest one. */
    private static void lowestWay(Due due) {
        int[][] second = {{I, 0, 0, 1}, {I, 0, 1, 2}, {L, 6, 1, 2}, {I, 1, 0, 2}, {I, 0, 0, 1}, {I, 0, 3, 1}, {I, 0, 1, 2},
            {I, 0, 1, 1}};
        int[] columns = {3, 2, 3, 3, 3, 2, 2, 2};
        for (int way = 0; way < 8; way++) {
            WindowLetters x = Due.shop(1);
            x.cut(0, I, 0, 0, 0);
            x.cut(0, second[way][0], second[way][1], second[way][2], second[way][3]);
            expectFit(due, x, L, way / 4, 0, columns[way], way);
        }
        WindowLetters x = Due.shop(1);
        expectFit(due, x, S, 0, 0, 0, 0);
        expectFit(due, x, S, 1, 0, 0, 4);
    }

    /** An O near the corner leaves the corner to mirrored L's, or to those that are not. */
    private static void mirroredAsTold(Due due) {
        WindowLetters x = Due.shop(1);
        x.cut(0, O, 0, 1, 0);
        expectFit(due, x, L, 0, 0, 1, 2);
        expectFit(due, x, L, 1, 0, 0, 7);
        x.undo();
        x.cut(0, O, 1, 0, 1);
        expectFit(due, x, L, 0, 0, 0, 0);
        expectFit(due, x, L, 1, 0, 4, 4);
    }

    private static void lastPlace(Due due) {
        WindowLetters upright = CutSheets.shop(CutSheets.BUT_LAST_UPRIGHT);
        WindowLetters lying = CutSheets.shop(CutSheets.BUT_LAST_LYING);
        for (int letter = 0; letter < 8; letter++) {
            for (int mirrored = 0; mirrored < 2; mirrored++) {
                if (letter != I) {
                    expectFit(due, upright, letter, mirrored, 4, 11, 4 * mirrored);
                    expectFit(due, lying, letter, mirrored, 6, 9, 4 * mirrored + 1);
                }
            }
        }
        expectFit(due, upright, I, 0, 4, 10, 0);
        expectFit(due, lying, I, 1, 5, 9, 5);
        due.is("the fit can be cut", upright.make(1, O, 0), 17);
        due.is("it was the only one", upright.fit(0, O, 0, 0), NONE);
    }

    private static void expectFit(Due due, WindowLetters x, int letter, int mirrored, int row, int column, int way) {
        String call = "fit(0, " + letter + ", " + mirrored + ", ";
        due.is(call + "0)", x.fit(0, letter, mirrored, 0), way);
        due.is(call + "1)", x.fit(0, letter, mirrored, 1), row);
        due.is(call + "2)", x.fit(0, letter, mirrored, 2), column);
    }

    // ---- pieces and panes

    private static void fortyEightPieces(Due due) {
        WindowLetters x = Due.fullShop();
        due.is("pieces so far", x.count(1), 48);
        due.is("the last one", x.of(47, 6), 11);
        due.is("the 49th", x.make(1, I, 0), TOO_MANY);
        x.throwAway(0);
        due.is("the 49th when one is waste, as 48 have been", x.make(1, I, 0), TOO_MANY);
        x.undo();
        x.undo();
        due.is("the 48th again", x.make(1, I, 0), 47);
    }

    /** An O has 12 squares of the 15 of its rows and columns. */
    private static void withAllItsSquares(Due due) {
        WindowLetters x = Due.shop(1);
        x.make(1, O, 0);
        due.is("loose", x.of(0, 3), 0);
        due.is("squares of pieces that are no waste", x.count(7), 12);
        x.place(0, 1, 1);
        due.is("in a pane", x.of(0, 3), 1);
        due.is("squares of pieces that are no waste", x.count(7), 12);
        x.clear(1);
        x.throwAway(0);
        due.is("waste", x.of(0, 3), 2);
        due.is("squares of pieces that are no waste", x.count(7), 0);
        due.is("squares of waste", x.count(5), 12);
    }

    private static void threePanesOfTwelve(Due due) {
        ToIntFunction<int[]> place = p -> {
            WindowLetters x = Due.shop(1);
            x.make(1, I, 0);
            return x.place(0, p[0], p[1]);
        };
        due.bounds("place(0, pane, 0)", 0, 2, NO_SUCH, pane -> place.applyAsInt(new int[] {pane, 0}));
        due.bounds("place(0, 0, place)", 0, 11, NO_SUCH, spot -> place.applyAsInt(new int[] {0, spot}));
        due.bounds("pane(pane, 0)", 0, 2, NO_SUCH, pane -> new WindowLetters().pane(pane, 0));
        due.bounds("pane(0, place)", 0, 11, NO_SUCH, spot -> new WindowLetters().pane(0, spot));
        due.bounds("clear(pane)", 0, 2, NO_SUCH, pane -> new WindowLetters().clear(pane));
        WindowLetters x = Due.fullShop();
        for (int piece = 0; piece < 36; piece++) {
            due.is("all places, the piece " + piece, x.place(piece, piece / 12, piece % 12), piece % 12 + 1);
        }
        for (int piece = 0; piece < 36; piece++) {
            due.is("it stands there", x.pane(piece / 12, piece % 12), piece);
        }
    }

    private static void onePieceAtMost(Due due) {
        WindowLetters x = withPad(Due.shop(1), "i");
        x.make(1, I, 0);
        x.make(1, I, 0);
        x.place(0, 2, 11);
        due.is("place", x.place(1, 2, 11), NOT_POSSIBLE);
        due.is("write", x.write(2, 11, 1, 0), NOT_POSSIBLE);
        due.is("colours", x.colours(2, 11, 0), 0);
        due.is("the one that stands there", x.pane(2, 11), 0);
        x.clear(2);
        due.is("place when it is free", x.place(1, 2, 11), 1);
    }
}
