import java.util.function.Supplier;

/** The sentences of the promises 10 to 19 that name a boundary: each part bears the sentence that it tests. */
public final class EdgesOfAnswersTest {
    private static final int NO_SUCH = -1, BAD_VALUE = -2, BAD_TEXT = -3, TOO_MANY = -4, NONE = -6;
    private static final int I = 0, L = 1, O = 2, T = 3, U = 4, E = 5, H = 6, S = 7;

    public static void main(String[] args) {
        Due due = new Due("EdgesOfAnswersTest");
        due.part("10: 0 its letter, 1 its colour, 2 whether it is mirrored", EdgesOfAnswersTest::ofLetterColourMirrored);
        due.part("10: 3 how it is, 0 to 2", EdgesOfAnswersTest::ofHowItIs);
        due.part("10: 4 its pane and its place there (NONE)", EdgesOfAnswersTest::ofSpot);
        due.part("10: 5 its sheet, 6 its row and its column, 7 the way", EdgesOfAnswersTest::ofWhereItWasCut);
        due.part("10: NO_SUCH if there is no such piece", EdgesOfAnswersTest::ofNoSuch);
        due.part("10: BAD_VALUE if what is out of range", EdgesOfAnswersTest::ofBadValue);
        due.part("11: 0 its colour", EdgesOfAnswersTest::ofSheetColour);
        due.part("11: 1 squares that are not cut (of a scrapped one, too)", EdgesOfAnswersTest::ofSheetSquares);
        due.part("11: 2 pieces that were cut from it", EdgesOfAnswersTest::ofSheetPieces);
        due.part("11: 3 whether it is scrapped", EdgesOfAnswersTest::ofSheetScrapped);
        due.part("11: 4 letters that fit, mirrored or not (none if scrapped)", EdgesOfAnswersTest::ofSheetLetters);
        due.part("11: NO_SUCH if there is no such sheet", EdgesOfAnswersTest::ofSheetNoSuch);
        due.part("11: BAD_VALUE if what is out of range", EdgesOfAnswersTest::ofSheetBadValue);
        due.part("12: the columns that are cut", EdgesOfAnswersTest::rowColumns);
        due.part("12: NO_SUCH if there is no such sheet or row", EdgesOfAnswersTest::rowNoSuch);
        due.part("13: the piece; NONE without one", EdgesOfAnswersTest::panePiece);
        due.part("13: NO_SUCH if there is no such pane or place", EdgesOfAnswersTest::paneNoSuch);
        due.part("14: the leftmost column is the lowest bit", EdgesOfAnswersTest::shapeBits);
        due.part("14: 0 for a row that it has not", EdgesOfAnswersTest::shapeRowNotHad);
        due.part("14: NO_SUCH if there is no such letter", EdgesOfAnswersTest::shapeNoSuch);
        due.part("14: BAD_VALUE if way or row is out of range", EdgesOfAnswersTest::shapeBadValue);
        due.part("15: 0 sheets so far, 1 pieces so far", EdgesOfAnswersTest::countSoFar);
        due.part("15: 2 loose ones, 3 in panes, 4 waste ones", EdgesOfAnswersTest::countHowTheyAre);
        due.part("15: 5 squares of waste, 6 not scrapped and not cut, 7 no waste", EdgesOfAnswersTest::countSquares);
        due.part("15: 8 the length of the pad", EdgesOfAnswersTest::countPad);
        due.part("15: 9 how many changes can be undone", EdgesOfAnswersTest::countHistory);
        due.part("15: BAD_VALUE if what is out of range", EdgesOfAnswersTest::countBadValue);
        due.part("16: NO_SUCH if there is no such sheet or letter", EdgesOfAnswersTest::fitNoSuch);
        due.part("16: BAD_VALUE if mirrored or what is out of range", EdgesOfAnswersTest::fitBadValue);
        due.part("16: NONE if there is none, or the sheet is scrapped", EdgesOfAnswersTest::fitNone);
        due.part("17: one behind the other, each at its first fit", EdgesOfAnswersTest::manyOfFirstFits);
        due.part("17: whatever the bound of pieces", EdgesOfAnswersTest::manyOfBeyondBound);
        due.part("17: NO_SUCH if there is no such sheet or letter", EdgesOfAnswersTest::manyOfNoSuch);
        due.part("17: BAD_VALUE if mirrored is neither", EdgesOfAnswersTest::manyOfBadValue);
        due.part("18: how many places and ways there are", EdgesOfAnswersTest::fitsPlacesAndWays);
        due.part("18: 0 if it is scrapped", EdgesOfAnswersTest::fitsScrapped);
        due.part("18: NO_SUCH if there is no such sheet or letter", EdgesOfAnswersTest::fitsNoSuch);
        due.part("19: the colours in which the name could be written", EdgesOfAnswersTest::coloursAsWrite);
        due.part("19: the colour 1 is the bit 1", EdgesOfAnswersTest::coloursBits);
        due.part("19: NO_SUCH if there is no such pane or place", EdgesOfAnswersTest::coloursNoSuch);
        due.part("19: BAD_TEXT if the pad has a fault", EdgesOfAnswersTest::coloursBadText);
        due.part("19: BAD_VALUE if mirrored is neither", EdgesOfAnswersTest::coloursBadValue);
        due.part("what if; nothing changes", EdgesOfAnswersTest::nothingChanges);
        due.end();
    }

    private static WindowLetters withPad(WindowLetters x, String text) {
        Due.pad(x, text);
        return x;
    }

    private static WindowLetters withLoose(int... letters) {
        WindowLetters x = Due.shop(1);
        for (int letter : letters) {
            x.make(1, letter, 0);
        }
        return x;
    }

    private static WindowLetters scrapped(WindowLetters x) {
        x.scrap(0);
        return x;
    }

    // ---- 10 and 11

    private static void ofLetterColourMirrored(Due due) {
        for (int letter = 0; letter < 8; letter++) {
            for (int way = 0; way < 8; way++) {
                WindowLetters x = Due.shop(1, 1 + way % 4);
                x.cut(1, letter, way, 0, 0);
                due.is("the letter", x.of(0, 0), letter);
                due.is("the colour", x.of(0, 1), 1 + way % 4);
                due.is("whether it is mirrored", x.of(0, 2), way / 4);
            }
        }
    }

    private static void ofHowItIs(Due due) {
        WindowLetters x = withLoose(I, L);
        due.is("loose", x.of(0, 3), 0);
        x.place(0, 0, 0);
        due.is("in a pane", x.of(0, 3), 1);
        x.clear(0);
        due.is("loose again", x.of(0, 3), 0);
        x.throwAway(0);
        due.is("waste", x.of(0, 3), 2);
        due.is("the other one", x.of(1, 3), 0);
        x.scrap(0);
        due.is("the other one of a scrapped sheet", x.of(1, 3), 0);
    }

    private static void ofSpot(Due due) {
        WindowLetters x = Due.fullShop();
        due.is("loose", x.of(0, 4), NONE);
        for (int piece = 0; piece < 36; piece++) {
            x.place(piece, piece / 12, piece % 12);
            due.is("the spot of " + piece, x.of(piece, 4), piece);
        }
        x.clear(0);
        due.is("of the pane that was cleared", x.of(0, 4), NONE);
        due.is("of another pane", x.of(35, 4), 35);
        x.throwAway(0);
        due.is("waste", x.of(0, 4), NONE);
    }

    private static void ofWhereItWasCut(Due due) {
        int[][] places = {{0, 0, 0, 0}, {5, 0, 4, 11}, {1, 1, 6, 9}, {2, 7, 6, 9}, {3, 2, 0, 11}, {4, 5, 6, 0}};
        WindowLetters x = Due.shop(1, 2, 3, 4, 1, 2);
        for (int i = 0; i < places.length; i++) {
            int[] p = places[i];
            x.cut(p[0], H, p[1], p[2], p[3]);
            due.is("its sheet", x.of(i, 5), p[0]);
            due.is("its row and column", x.of(i, 6), 14 * p[2] + p[3]);
            due.is("its way", x.of(i, 7), p[1]);
        }
        x.throwAway(1);
        due.is("the place of waste", x.of(1, 6), 14 * 4 + 11);
        x.place(2, 0, 0);
        x.scrap(1);
        due.is("the sheet of one in a pane, scrapped", x.of(2, 5), 1);
    }

    private static void ofNoSuch(Due due) {
        due.bounds("of(piece, 0)", 0, 2, NO_SUCH, piece -> withLoose(I, L, T).of(piece, 0));
        due.bounds("of(piece, 4) of 48", 0, 47, NO_SUCH, piece -> Due.fullShop().of(piece, 4));
        due.is("without pieces", Due.shop(1).of(0, 0), NO_SUCH);
        due.is("ahead of what", Due.shop(1).of(0, 8), NO_SUCH);
        WindowLetters x = withLoose(I);
        x.undo();
        due.is("a piece that is not cut any more", x.of(0, 0), NO_SUCH);
    }

    private static void ofBadValue(Due due) {
        due.bounds("of(0, what)", 0, 7, BAD_VALUE, what -> withLoose(I).of(0, what));
    }

    private static void ofSheetColour(Due due) {
        WindowLetters x = scrapped(Due.shop(4, 3, 2, 1));
        for (int sheet = 0; sheet < 4; sheet++) {
            due.is("the colour of " + sheet, x.ofSheet(sheet, 0), 4 - sheet);
        }
    }

    private static void ofSheetSquares(Due due) {
        due.is("all", Due.shop(1).ofSheet(0, 1), 126);
        due.is("none", CutSheets.shop(CutSheets.WHOLE).ofSheet(0, 1), 0);
        due.is("the last ones", CutSheets.shop(CutSheets.BUT_LAST_UPRIGHT).ofSheet(0, 1), 15);
        due.is("of a scrapped one", scrapped(CutSheets.shop(CutSheets.BUT_LAST_LYING)).ofSheet(0, 1), 15);
        due.is("all of a scrapped one", scrapped(Due.shop(1)).ofSheet(0, 1), 126);
    }

    private static void ofSheetPieces(Due due) {
        due.is("none", Due.shop(1).ofSheet(0, 2), 0);
        WindowLetters x = CutSheets.threeWhole(1);
        x.throwAway(0);
        x.place(1, 0, 0);
        x.scrap(0);
        for (int sheet = 0; sheet < 4; sheet++) {
            due.is("of the sheet " + sheet, x.ofSheet(sheet, 2), sheet < 3 ? 16 : 0);
        }
        WindowLetters one = Due.shop(1);
        for (int i = 0; i < 18; i++) {
            one.make(1, I, 0);
        }
        due.is("eighteen", one.ofSheet(0, 2), 18);
        one.undo();
        due.is("seventeen", one.ofSheet(0, 2), 17);
    }

    private static void ofSheetScrapped(Due due) {
        WindowLetters x = scrapped(Due.shop(1, 1));
        due.is("the scrapped one", x.ofSheet(0, 3), 1);
        due.is("the other one", x.ofSheet(1, 3), 0);
        due.is("a wholly cut one", CutSheets.shop(CutSheets.WHOLE).ofSheet(0, 3), 0);
    }

    /** An H, an E and an I leave a gap at the upper edge in which an S fits if it is mirrored. */
    private static void ofSheetLetters(Due due) {
        due.is("all", Due.shop(1).ofSheet(0, 4), 255);
        due.is("all at the last place", CutSheets.shop(CutSheets.BUT_LAST_UPRIGHT).ofSheet(0, 4), 255);
        due.is("none", CutSheets.shop(CutSheets.WHOLE).ofSheet(0, 4), 0);
        due.is("none if it is scrapped", scrapped(Due.shop(1)).ofSheet(0, 4), 0);
        WindowLetters corner = CutSheets.shop(CutSheets.BUT_LAST_UPRIGHT);
        corner.make(1, H, 0);
        due.is("none in what an H leaves", corner.ofSheet(0, 4), 0);
        corner.undo();
        corner.cut(0, I, 0, 4, 10);
        due.is("an I beside an I", corner.ofSheet(0, 4), 1 << I);
        WindowLetters x = Due.shop(1);
        x.cut(0, H, 4, 2, 7);
        x.cut(0, E, 4, 2, 2);
        x.cut(0, I, 2, 4, 10);
        due.is("an S that is not mirrored", x.fit(0, S, 0, 0), NONE);
        due.is("a mirrored S is in the set", x.ofSheet(0, 4), 255 - (1 << O));
    }

    private static void ofSheetNoSuch(Due due) {
        due.bounds("ofSheet(sheet, 0)", 0, 2, NO_SUCH, sheet -> Due.shop(1, 2, 3).ofSheet(sheet, 0));
        due.bounds("ofSheet(sheet, 1) of 6", 0, 5, NO_SUCH, sheet -> Due.shop(1, 1, 1, 1, 1, 1).ofSheet(sheet, 1));
        due.is("without sheets", new WindowLetters().ofSheet(0, 0), NO_SUCH);
        due.is("ahead of what", new WindowLetters().ofSheet(0, 5), NO_SUCH);
    }

    private static void ofSheetBadValue(Due due) {
        due.bounds("ofSheet(0, what)", 0, 4, BAD_VALUE, what -> Due.shop(1).ofSheet(0, what));
    }

    // ---- 12 to 14

    private static void rowColumns(Due due) {
        WindowLetters x = Due.shop(1, 1);
        for (int row = 0; row < 9; row++) {
            due.is("none of the row " + row, x.row(0, row), 0);
        }
        CutSheets.cut(x, 0, CutSheets.WHOLE);
        for (int row = 0; row < 9; row++) {
            due.is("all of the row " + row, x.row(0, row), 16383);
            due.is("none of the other sheet", x.row(1, row), 0);
        }
        x.cut(1, O, 0, 4, 11);
        due.is("the last column is the highest bit", x.row(1, 5), 1 << 13 | 1 << 11);
        x.cut(1, O, 0, 0, 0);
        due.is("the first column is the lowest bit", x.row(1, 1), 5);
        x.scrap(1);
        due.is("of a scrapped one", x.row(1, 1), 5);
    }

    private static void rowNoSuch(Due due) {
        due.bounds("row(sheet, 0)", 0, 1, NO_SUCH, sheet -> Due.shop(1, 2).row(sheet, 0));
        due.bounds("row(0, row)", 0, 8, NO_SUCH, row -> Due.shop(1).row(0, row));
        due.is("without sheets", new WindowLetters().row(0, 0), NO_SUCH);
    }

    private static void panePiece(Due due) {
        WindowLetters x = withLoose(I, L);
        x.place(0, 0, 11);
        x.place(1, 2, 0);
        for (int spot = 0; spot < 36; spot++) {
            due.is("the spot " + spot, x.pane(spot / 12, spot % 12), spot == 11 ? 0 : spot == 24 ? 1 : NONE);
        }
        x.clear(0);
        due.is("when it is cleared", x.pane(0, 11), NONE);
    }

    private static void paneNoSuch(Due due) {
        due.bounds("pane(pane, 0)", 0, 2, NO_SUCH, pane -> new WindowLetters().pane(pane, 0));
        due.bounds("pane(0, place)", 0, 11, NO_SUCH, place -> new WindowLetters().pane(0, place));
        WindowLetters x = withLoose(I);
        x.place(0, 1, 0);
        due.is("a place that would be the next pane's first one", x.pane(0, 12), NO_SUCH);
        due.is("a place that would be the last pane's", x.pane(2, -12), NO_SUCH);
    }

    private static void shapeBits(Due due) {
        WindowLetters x = new WindowLetters();
        due.is("the left side of an L", x.shape(L, 0, 0), 1);
        due.is("the right side of a mirrored L", x.shape(L, 4, 0), 4);
        due.is("the left end of a lying L", x.shape(L, 1, 2), 1);
        due.is("the right end of a lying L", x.shape(L, 3, 0), 16);
        due.is("a whole lying row", x.shape(L, 3, 2), 31);
        due.is("the middle of an I", x.shape(I, 0, 4), 2);
    }

    private static void shapeRowNotHad(Due due) {
        WindowLetters x = new WindowLetters();
        for (int letter = 0; letter < 8; letter++) {
            for (int way = 1; way < 8; way += 2) {
                due.is("shape(" + letter + ", " + way + ", 3)", x.shape(letter, way, 3), 0);
                due.is("shape(" + letter + ", " + way + ", 4)", x.shape(letter, way, 4), 0);
            }
        }
        due.is("the row 5 is none even so", x.shape(I, 1, 5), BAD_VALUE);
        due.is("a row without squares that it has", x.shape(I, 1, 0), 0);
    }

    private static void shapeNoSuch(Due due) {
        due.bounds("shape(letter, 0, 0)", 0, 7, NO_SUCH, letter -> new WindowLetters().shape(letter, 0, 0));
        due.is("ahead of no way", new WindowLetters().shape(8, 8, 0), NO_SUCH);
        due.is("ahead of no row", new WindowLetters().shape(-1, 0, 5), NO_SUCH);
    }

    private static void shapeBadValue(Due due) {
        due.bounds("shape(O, way, 0)", 0, 7, BAD_VALUE, way -> new WindowLetters().shape(O, way, 0));
        due.bounds("shape(O, 0, row)", 0, 4, BAD_VALUE, row -> new WindowLetters().shape(O, 0, row));
        due.bounds("shape(O, 7, row)", 0, 4, BAD_VALUE, row -> new WindowLetters().shape(O, 7, row));
    }

    // ---- 15

    private static void countSoFar(Due due) {
        WindowLetters x = Due.fullShop();
        x.throwAway(0);
        x.scrap(0);
        due.is("sheets, a scrapped one, too", x.count(0), 4);
        due.is("pieces, a waste one, too", x.count(1), 48);
        x.sheet(1);
        x.sheet(1);
        x.sheet(1);
        x.make(1, I, 0);
        due.is("six sheets at most", x.count(0), 6);
        due.is("48 pieces at most", x.count(1), 48);
        x.undo();
        due.is("a sheet that is taken back", x.count(0), 5);
    }

    private static void countHowTheyAre(Due due) {
        WindowLetters x = Due.fullShop();
        expectCounts(due, x, 48, 0, 0);
        for (int i = 0; i < 36; i++) {
            x.place(i, i / 12, i % 12);
        }
        expectCounts(due, x, 12, 36, 0);
        for (int i = 36; i < 48; i++) {
            x.throwAway(i);
        }
        expectCounts(due, x, 0, 36, 12);
        x.clear(2);
        expectCounts(due, x, 12, 24, 12);
        WindowLetters waste = withLoose(I);
        waste.throwAway(0);
        expectCounts(due, waste, 0, 0, 1);
    }

    private static void expectCounts(Due due, WindowLetters x, int loose, int inPanes, int waste) {
        due.is("loose ones", x.count(2), loose);
        due.is("in panes", x.count(3), inPanes);
        due.is("waste ones", x.count(4), waste);
    }

    private static void countSquares(Due due) {
        WindowLetters x = Due.shop(1, 2, 3, 4, 1, 2);
        expectSquares(due, x, 0, 6 * 126, 0);
        for (int sheet = 0; sheet < 6; sheet++) {
            x.scrap(sheet);
        }
        expectSquares(due, x, 6 * 126, 0, 0);
        WindowLetters whole = CutSheets.shop(CutSheets.WHOLE);
        expectSquares(due, whole, 0, 0, 126);
        whole.scrap(0);
        expectSquares(due, whole, 0, 0, 126);
        for (int piece = 0; piece < 16; piece++) {
            whole.throwAway(piece);
        }
        expectSquares(due, whole, 126, 0, 0);
        WindowLetters both = withLoose(O, S);
        both.place(0, 0, 0);
        expectSquares(due, both, 0, 126 - 23, 23);
        both.throwAway(1);
        both.scrap(0);
        expectSquares(due, both, 126 - 23 + 11, 0, 12);
    }

    private static void expectSquares(Due due, WindowLetters x, int waste, int notCut, int pieces) {
        due.is("squares of waste", x.count(5), waste);
        due.is("squares that are not scrapped and not cut", x.count(6), notCut);
        due.is("squares of pieces that are no waste", x.count(7), pieces);
    }

    private static void countPad(Due due) {
        WindowLetters x = new WindowLetters();
        for (int length = 1; length <= 80; length++) {
            x.put('!');
            due.is("the length", x.count(8), length);
        }
        x.put('!');
        due.is("the length at most", x.count(8), 80);
        x.wipe();
        due.is("the length when it is wiped", x.count(8), 0);
    }

    private static void countHistory(Due due) {
        WindowLetters x = new WindowLetters();
        for (int changes = 1; changes <= 8; changes++) {
            x.clear(0);
            due.is("after " + changes + " changes", x.count(9), Math.min(6, changes));
        }
        for (int left = 5; left >= 0; left--) {
            x.undo();
            due.is("after undo", x.count(9), left);
        }
        x.undo();
        due.is("after an undo too many", x.count(9), 0);
    }

    private static void countBadValue(Due due) {
        due.bounds("count(what)", 0, 9, BAD_VALUE, what -> new WindowLetters().count(what));
    }

    // ---- 16 to 19

    private static void fitNoSuch(Due due) {
        due.bounds("fit(sheet, I, 0, 0)", 0, 1, NO_SUCH, sheet -> Due.shop(1, 2).fit(sheet, I, 0, 0));
        due.bounds("fit(0, letter, 1, 0)", 0, 7, NO_SUCH, letter -> Due.shop(1).fit(0, letter, 1, 0));
        due.is("no sheet, ahead of mirrored 2", Due.shop(1).fit(1, I, 2, 0), NO_SUCH);
        due.is("no sheet, ahead of what 3", Due.shop(1).fit(1, I, 0, 3), NO_SUCH);
        due.is("no letter, ahead of mirrored 2", Due.shop(1).fit(0, 8, 2, 0), NO_SUCH);
        due.is("no letter, ahead of what 3", Due.shop(1).fit(0, 8, 0, 3), NO_SUCH);
        due.is("no letter, ahead of scrapped", scrapped(Due.shop(1)).fit(0, 8, 0, 0), NO_SUCH);
        due.is("without sheets", new WindowLetters().fit(0, I, 0, 0), NO_SUCH);
    }

    private static void fitBadValue(Due due) {
        due.bounds("fit(0, I, mirrored, 0)", 0, 1, BAD_VALUE, mirrored -> Due.shop(1).fit(0, I, mirrored, 0));
        due.bounds("fit(0, I, 0, what)", 0, 2, BAD_VALUE, what -> Due.shop(1).fit(0, I, 0, what));
        due.is("mirrored, ahead of scrapped", scrapped(Due.shop(1)).fit(0, I, 2, 0), BAD_VALUE);
        due.is("what, ahead of scrapped", scrapped(Due.shop(1)).fit(0, I, 0, 3), BAD_VALUE);
        due.is("what, ahead of no fit", CutSheets.shop(CutSheets.WHOLE).fit(0, I, 0, -1), BAD_VALUE);
    }

    private static void fitNone(Due due) {
        WindowLetters[] without = {CutSheets.shop(CutSheets.WHOLE), scrapped(Due.shop(1))};
        for (WindowLetters x : without) {
            for (int letter = 0; letter < 8; letter++) {
                for (int what = 0; what < 3; what++) {
                    due.is("fit(0, " + letter + ", 0, " + what + ")", x.fit(0, letter, 0, what), NONE);
                    due.is("fit(0, " + letter + ", 1, " + what + ")", x.fit(0, letter, 1, what), NONE);
                }
            }
        }
        WindowLetters x = CutSheets.shop(CutSheets.BUT_LAST_LYING);
        due.is("the last place", x.fit(0, O, 0, 1), 6);
        x.make(1, O, 0);
        due.is("when it is gone", x.fit(0, O, 0, 1), NONE);
    }

    /** What manyOf tells is what make can do, one call after the other. */
    private static void manyOfFirstFits(Due due) {
        due.is("I's of a whole sheet", Due.shop(1).manyOf(0, I, 0), 18);
        due.is("one at the last place", CutSheets.shop(CutSheets.BUT_LAST_UPRIGHT).manyOf(0, O, 1), 1);
        due.is("none", CutSheets.shop(CutSheets.WHOLE).manyOf(0, I, 0), 0);
        due.is("none of a scrapped one", scrapped(Due.shop(1)).manyOf(0, I, 0), 0);
        for (int letter = 0; letter < 8; letter++) {
            for (int mirrored = 0; mirrored < 2; mirrored++) {
                WindowLetters x = Due.shop(1);
                x.cut(0, T, 0, 2, 4);
                int many = x.manyOf(0, letter, mirrored);
                int made = 0;
                while (made < 40 && x.make(1, letter, mirrored) >= 0) {
                    made++;
                }
                due.is("manyOf(0, " + letter + ", " + mirrored + ")", many, made);
                due.is("and then", x.manyOf(0, letter, mirrored), 0);
            }
        }
    }

    private static void manyOfBeyondBound(Due due) {
        WindowLetters x = CutSheets.threeWhole(1);
        due.is("48 pieces", x.count(1), 48);
        due.is("I's that could be cut", x.manyOf(3, I, 0), 18);
        due.is("O's that could be cut", x.manyOf(3, O, 1), 6);
        due.is("an I that is cut", x.make(1, I, 0), TOO_MANY);
    }

    private static void manyOfNoSuch(Due due) {
        due.bounds("manyOf(sheet, I, 0)", 0, 1, NO_SUCH, sheet -> Due.shop(1, 2).manyOf(sheet, I, 0));
        due.bounds("manyOf(0, letter, 1)", 0, 7, NO_SUCH, letter -> Due.shop(1).manyOf(0, letter, 1));
        due.is("no sheet, ahead of mirrored 2", Due.shop(1).manyOf(1, I, 2), NO_SUCH);
        due.is("no letter, ahead of mirrored 2", Due.shop(1).manyOf(0, 8, 2), NO_SUCH);
        due.is("no letter of a scrapped one", scrapped(Due.shop(1)).manyOf(0, 8, 0), NO_SUCH);
        due.is("without sheets", new WindowLetters().manyOf(0, I, 0), NO_SUCH);
    }

    private static void manyOfBadValue(Due due) {
        due.bounds("manyOf(0, I, mirrored)", 0, 1, BAD_VALUE, mirrored -> Due.shop(1).manyOf(0, I, mirrored));
        due.is("ahead of scrapped", scrapped(Due.shop(1)).manyOf(0, I, 2), BAD_VALUE);
    }

    /** Ways that look the same are ways of their own. */
    private static void fitsPlacesAndWays(Due due) {
        for (int letter = 0; letter < 8; letter++) {
            due.is("fits(0, " + letter + ")", Due.shop(1).fits(0, letter), 4 * 5 * 12 + 4 * 7 * 10);
            due.is("of a wholly cut one", CutSheets.shop(CutSheets.WHOLE).fits(0, letter), 0);
            if (letter != I) {
                due.is("upright at the last place", CutSheets.shop(CutSheets.BUT_LAST_UPRIGHT).fits(0, letter), 4);
                due.is("lying at the last place", CutSheets.shop(CutSheets.BUT_LAST_LYING).fits(0, letter), 4);
            }
        }
        due.is("I's in the corner, upright", CutSheets.shop(CutSheets.BUT_LAST_UPRIGHT).fits(0, I), 8);
        due.is("I's in the corner, lying", CutSheets.shop(CutSheets.BUT_LAST_LYING).fits(0, I), 8);
        due.is("whatever the bound of pieces", CutSheets.threeWhole(1).fits(3, O), 520);
    }

    private static void fitsScrapped(Due due) {
        due.is("fits(0, I)", scrapped(Due.shop(1, 1)).fits(0, I), 0);
        due.is("fits(1, I)", scrapped(Due.shop(1, 1)).fits(1, I), 520);
    }

    private static void fitsNoSuch(Due due) {
        due.bounds("fits(sheet, I)", 0, 1, NO_SUCH, sheet -> Due.shop(1, 2).fits(sheet, I));
        due.bounds("fits(0, letter)", 0, 7, NO_SUCH, letter -> Due.shop(1).fits(0, letter));
        due.is("no letter of a scrapped one", scrapped(Due.shop(1)).fits(0, 8), NO_SUCH);
        due.is("without sheets", new WindowLetters().fits(0, I), NO_SUCH);
    }

    /** A colour is in the set if write, asked of another such shop, does it. */
    private static void coloursAsWrite(Due due) {
        Supplier<WindowLetters> shop = () -> {
            WindowLetters x = Due.shop(1, 2, 3, 4);
            CutSheets.cut(x, 0, CutSheets.BUT_LAST_UPRIGHT);
            x.scrap(1);
            x.make(3, I, 0);
            x.place(17, 1, 5);
            return x;
        };
        String[] names = {"o", "oo", "t", "ll", "ilotuehsilot", "hhhhhhh"};
        for (String name : names) {
            for (int place = 0; place < 12; place++) {
                for (int mirrored = 0; mirrored < 2; mirrored++) {
                    int set = 0;
                    for (int colour = 1; colour <= 4; colour++) {
                        int answer = withPad(shop.get(), name).write(1, place, colour, mirrored);
                        set |= answer >= 0 ? 1 << colour : 0;
                    }
                    due.is("colours(1, " + place + ", " + mirrored + ") of " + name,
                        withPad(shop.get(), name).colours(1, place, mirrored), set);
                }
            }
        }
    }

    private static void coloursBits(Due due) {
        for (int colour = 1; colour <= 4; colour++) {
            due.is("the colour " + colour, withPad(Due.shop(colour), "i").colours(0, 0, 0), 1 << colour);
        }
        due.is("all of them", withPad(Due.shop(4, 3, 2, 1), "i").colours(2, 11, 1), 30);
        due.is("none, without sheets", withPad(new WindowLetters(), "i").colours(0, 0, 0), 0);
        due.is("none, as it is beyond the last place", withPad(Due.shop(1, 2), "il").colours(0, 11, 0), 0);
        WindowLetters full = withPad(Due.fullShop(), "iii");
        due.is("loose ones suffice with 48 pieces", full.colours(0, 9, 0), 2);
        due.is("mirrored ones would have to be cut", full.colours(0, 9, 1), 0);
        full.sheet(2);
        due.is("those of another colour would have to be cut", full.colours(0, 9, 0), 2);
    }

    private static void coloursNoSuch(Due due) {
        due.bounds("colours(pane, 0, 0)", 0, 2, NO_SUCH, pane -> withPad(Due.shop(1), "i").colours(pane, 0, 0));
        due.bounds("colours(0, place, 0)", 0, 11, NO_SUCH, place -> withPad(Due.shop(1), "i").colours(0, place, 0));
        due.is("no pane, ahead of a bad text", new WindowLetters().colours(3, 0, 0), NO_SUCH);
        due.is("no place, ahead of a bad text", new WindowLetters().colours(0, 12, 0), NO_SUCH);
        due.is("no pane, ahead of mirrored 2", withPad(Due.shop(1), "i").colours(-1, 0, 2), NO_SUCH);
        due.is("no place, ahead of mirrored 2", withPad(Due.shop(1), "i").colours(0, -1, 2), NO_SUCH);
    }

    private static void coloursBadText(Due due) {
        String[] bad = {"", "a", "ila", "ilotuehsiloto", "S"};
        for (String text : bad) {
            due.is("\"" + text + "\"", withPad(Due.shop(1), text).colours(0, 0, 0), BAD_TEXT);
            due.is("\"" + text + "\", ahead of mirrored 2", withPad(Due.shop(1), text).colours(0, 0, 2), BAD_TEXT);
        }
        due.is("twelve letters are none", withPad(Due.shop(1, 1), "ilotuehsilot").colours(0, 0, 0), 2);
    }

    private static void coloursBadValue(Due due) {
        due.bounds("colours(0, 0, mirrored)", 0, 1, BAD_VALUE,
            mirrored -> withPad(Due.shop(1), "i").colours(0, 0, mirrored));
        due.is("ahead of what cannot be done", withPad(new WindowLetters(), "il").colours(0, 11, 2), BAD_VALUE);
    }

    private static void nothingChanges(Due due) {
        Supplier<WindowLetters> shop = () -> {
            WindowLetters x = Due.shop(1, 2);
            x.make(1, U, 0);
            x.save(0);
            x.make(2, L, 0);
            return withPad(x, "hue");
        };
        due.is("the colours", shop.get().colours(0, 0, 0), 6);
        String before = Views.after(shop, x -> 0);
        due.is("fit", Views.after(shop, x -> x.fit(0, I, 0, 0)).equals(before) ? 1 : 0, 1);
        due.is("manyOf", Views.after(shop, x -> x.manyOf(0, I, 0)).equals(before) ? 1 : 0, 1);
        due.is("fits", Views.after(shop, x -> x.fits(0, I)).equals(before) ? 1 : 0, 1);
        due.is("colours", Views.after(shop, x -> x.colours(0, 0, 0)).equals(before) ? 1 : 0, 1);
        due.is("a change is seen", Views.after(shop, x -> x.clear(0)).equals(before) ? 1 : 0, 0);
    }
}
