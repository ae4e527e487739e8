import java.util.function.ToIntFunction;

/** The sentences of the promises 1 to 9 that name a boundary: each part bears the sentence that it tests. */
public final class EdgesOfChangesTest {
    private static final int NO_SUCH = -1, BAD_VALUE = -2, BAD_TEXT = -3, TOO_MANY = -4, NOT_POSSIBLE = -5, NONE = -6;
    private static final int I = 0, L = 1, O = 2, T = 3, U = 4, E = 5, H = 6, S = 7;
    private static final int[] SQUARES = {5, 7, 12, 7, 11, 11, 11, 11};

    public static void main(String[] args) {
        Due due = new Due("EdgesOfChangesTest");
        due.part("1: a shop without sheets, with empty panes", EdgesOfChangesTest::emptyShop);
        due.part("2: BAD_VALUE if colour is out of range", EdgesOfChangesTest::sheetColour);
        due.part("2: TOO_MANY if there have been 6 sheets", EdgesOfChangesTest::sheetTooMany);
        due.part("3: NO_SUCH if there is no such sheet or letter", EdgesOfChangesTest::cutNoSuch);
        due.part("3: BAD_VALUE if way is out of range", EdgesOfChangesTest::cutBadValue);
        due.part("3: NOT_POSSIBLE if the sheet is scrapped", EdgesOfChangesTest::cutScrapped);
        due.part("3: NOT_POSSIBLE if it cannot be cut there", EdgesOfChangesTest::cutNotThere);
        due.part("3: TOO_MANY if there have been 48 pieces", EdgesOfChangesTest::cutTooMany);
        due.part("4: on the lowest sheet of a colour that has one", EdgesOfChangesTest::makeLowestSheet);
        due.part("4: NO_SUCH if there is no such letter", EdgesOfChangesTest::makeNoSuch);
        due.part("4: BAD_VALUE if colour or mirrored is out of range", EdgesOfChangesTest::makeBadValue);
        due.part("4: NOT_POSSIBLE if it fits on no sheet of the colour", EdgesOfChangesTest::makeNotPossible);
        due.part("4: TOO_MANY if there have been 48 pieces", EdgesOfChangesTest::makeTooMany);
        due.part("5: returns how many pieces are cut for it", EdgesOfChangesTest::writeCuts);
        due.part("5: empties the pad", EdgesOfChangesTest::writeEmptiesPad);
        due.part("5: NO_SUCH if there is no such pane or place", EdgesOfChangesTest::writeNoSuch);
        due.part("5: BAD_TEXT if the pad has a fault", EdgesOfChangesTest::writeBadText);
        due.part("5: BAD_VALUE if colour or mirrored is out of range", EdgesOfChangesTest::writeBadValue);
        due.part("5: NOT_POSSIBLE is checked last", EdgesOfChangesTest::writeOrderOfErrors);
        due.part("5: the lowest loose piece that is such a letter", EdgesOfChangesTest::writeLowestLoose);
        due.part("5: a new piece at the first fit on the lowest sheet that has one", EdgesOfChangesTest::writeNewPieces);
        due.part("5: all of this, or nothing", EdgesOfChangesTest::writeAllOrNothing);
        due.part("5: not done if a place is taken already", EdgesOfChangesTest::writeTakenPlace);
        due.part("5: not done if a place is beyond the last one", EdgesOfChangesTest::writeBeyondLastPlace);
        due.part("5: not done if a letter cannot be had", EdgesOfChangesTest::writeLetterNotHad);
        due.part("5: also as there have been 48 pieces", EdgesOfChangesTest::writeFortyEightPieces);
        due.part("5: put from the last one to the first one", EdgesOfChangesTest::writeMirrored);
        due.part("6: returns how many pieces the pane has then", EdgesOfChangesTest::placeCounts);
        due.part("6: NO_SUCH if there is no such piece, pane or place", EdgesOfChangesTest::placeNoSuch);
        due.part("6: NOT_POSSIBLE if the piece is not loose", EdgesOfChangesTest::placeNotLoose);
        due.part("6: NOT_POSSIBLE if the place has one", EdgesOfChangesTest::placeTaken);
        due.part("7: returns how many; they are loose", EdgesOfChangesTest::clearCounts);
        due.part("7: NO_SUCH if there is no such pane", EdgesOfChangesTest::clearNoSuch);
        due.part("8: returns its squares; it is waste", EdgesOfChangesTest::throwAwaySquares);
        due.part("8: NO_SUCH if there is no such piece", EdgesOfChangesTest::throwAwayNoSuch);
        due.part("8: NOT_POSSIBLE if it is not loose", EdgesOfChangesTest::throwAwayNotLoose);
        due.part("9: returns the squares that are waste by that", EdgesOfChangesTest::scrapSquares);
        due.part("9: NO_SUCH if there is no such sheet", EdgesOfChangesTest::scrapNoSuch);
        due.part("9: NOT_POSSIBLE if it is scrapped", EdgesOfChangesTest::scrapScrapped);
        due.end();
    }

    private static WindowLetters withPad(WindowLetters x, String text) {
        Due.pad(x, text);
        return x;
    }

    /** A shop with a sheet of the colour 1, and loose pieces of it that are not mirrored. */
    private static WindowLetters withLoose(int... letters) {
        WindowLetters x = Due.shop(1);
        for (int letter : letters) {
            x.make(1, letter, 0);
        }
        return x;
    }

    // ---- 1 to 4

    private static void emptyShop(Due due) {
        WindowLetters x = new WindowLetters();
        for (int what = 0; what < 10; what++) {
            due.is("count(" + what + ")", x.count(what), 0);
        }
        for (int spot = 0; spot < 36; spot++) {
            due.is("the spot " + spot, x.pane(spot / 12, spot % 12), NONE);
        }
        due.is("no sheet", x.ofSheet(0, 0), NO_SUCH);
        due.is("no piece", x.of(0, 0), NO_SUCH);
        due.is("no history", x.undo(), NOT_POSSIBLE);
        due.is("nothing in the slot 0", x.restore(0), NOT_POSSIBLE);
        due.is("nothing in the slot 1", x.restore(1), NOT_POSSIBLE);
        due.is("no pad", x.wipe(), 0);
    }

    private static void sheetColour(Due due) {
        due.bounds("sheet(colour)", 1, 4, BAD_VALUE, colour -> new WindowLetters().sheet(colour));
        for (int colour = 1; colour <= 4; colour++) {
            due.is("the colour", Due.shop(colour).ofSheet(0, 0), colour);
        }
        due.is("ahead of too many", Due.shop(1, 1, 1, 1, 1, 1).sheet(0), BAD_VALUE);
    }

    private static void sheetTooMany(Due due) {
        WindowLetters x = new WindowLetters();
        for (int i = 0; i < 6; i++) {
            due.is("the sheet " + i, x.sheet(3), i);
        }
        due.is("the seventh", x.sheet(3), TOO_MANY);
        x.undo();
        due.is("the sixth again", x.sheet(4), 5);
        due.is("the seventh again", x.sheet(3), TOO_MANY);
    }

    private static void cutNoSuch(Due due) {
        due.bounds("cut(sheet, I, 0, 0, 0)", 0, 5, NO_SUCH, sheet -> Due.shop(1, 1, 1, 1, 1, 1).cut(sheet, I, 0, 0, 0));
        due.is("without sheets", new WindowLetters().cut(0, I, 0, 0, 0), NO_SUCH);
        due.bounds("cut(0, letter, 0, 0, 0)", 0, 7, NO_SUCH, letter -> Due.shop(1).cut(0, letter, 0, 0, 0));
        due.is("no sheet, ahead of no way", Due.shop(1).cut(1, I, 8, 0, 0), NO_SUCH);
        due.is("no letter, ahead of no way", Due.shop(1).cut(0, 8, 8, 0, 0), NO_SUCH);
        WindowLetters full = Due.fullShop();
        due.is("no sheet, ahead of too many", full.cut(4, I, 1, 6, 0), NO_SUCH);
        full.scrap(3);
        due.is("no letter, ahead of scrapped", full.cut(3, -1, 0, 0, 0), NO_SUCH);
    }

    private static void cutBadValue(Due due) {
        due.bounds("cut(0, E, way, 0, 0)", 0, 7, BAD_VALUE, way -> Due.shop(1).cut(0, E, way, 0, 0));
        due.is("ahead of no such place", Due.shop(1).cut(0, E, 8, 9, 14), BAD_VALUE);
        WindowLetters full = Due.fullShop();
        due.is("ahead of too many", full.cut(3, I, -1, 6, 0), BAD_VALUE);
        full.scrap(3);
        due.is("ahead of scrapped", full.cut(3, I, 8, 6, 0), BAD_VALUE);
    }

    private static void cutScrapped(Due due) {
        WindowLetters x = Due.shop(1, 1);
        x.scrap(0);
        due.is("the scrapped one", x.cut(0, I, 0, 4, 5), NOT_POSSIBLE);
        due.is("the other one", x.cut(1, I, 0, 4, 5), 0);
        x.undo();
        x.undo();
        due.is("when it is not scrapped any more", x.cut(0, I, 0, 4, 5), 0);
    }

    /** Numbers whose lowest bits, or whose wrap-around, would be a place on the sheet. */
    private static void cutNotThere(Due due) {
        due.bounds("cut(0, S, 2, row, 0)", 0, 4, NOT_POSSIBLE, row -> Due.shop(1).cut(0, S, 2, row, 0));
        due.bounds("cut(0, S, 2, 0, column)", 0, 11, NOT_POSSIBLE, column -> Due.shop(1).cut(0, S, 2, 0, column));
        due.bounds("cut(0, S, 7, row, 0)", 0, 6, NOT_POSSIBLE, row -> Due.shop(1).cut(0, S, 7, row, 0));
        due.bounds("cut(0, S, 7, 0, column)", 0, 9, NOT_POSSIBLE, column -> Due.shop(1).cut(0, S, 7, 0, column));
        due.is("a column that is the next row's first one", Due.shop(1).cut(0, I, 0, 0, 14), NOT_POSSIBLE);
        due.is("a column ahead that is the last row's", Due.shop(1).cut(0, I, 0, 1, -3), NOT_POSSIBLE);
        WindowLetters x = Due.shop(1);
        x.cut(0, O, 0, 0, 0);
        due.is("into an O's middle from above", x.cut(0, I, 0, 0, 0), NOT_POSSIBLE);
        due.is("a place that is cut", x.cut(0, O, 0, 0, 0), NOT_POSSIBLE);
        due.is("a place next to it", x.cut(0, O, 0, 0, 3), 1);
    }

    private static void cutTooMany(Due due) {
        WindowLetters x = Due.fullShop();
        x.undo();
        due.is("the 48th", x.cut(3, I, 1, 6, 9), 47);
        due.is("the 49th", x.cut(3, I, 1, 6, 0), TOO_MANY);
        due.is("NOT_POSSIBLE ahead of it", x.cut(3, I, 1, 6, 9), NOT_POSSIBLE);
        x.throwAway(47);
        due.is("the 49th when one is waste", x.cut(3, I, 1, 6, 0), TOO_MANY);
        x.scrap(0);
        due.is("the 49th when a sheet is scrapped", x.cut(3, I, 1, 6, 0), TOO_MANY);
        due.is("NOT_POSSIBLE ahead of it, as it is scrapped", x.cut(0, I, 1, 6, 0), NOT_POSSIBLE);
    }

    /** The sheets: another colour, one that is cut wholly, one that is scrapped, and two that have a fit. */
    private static void makeLowestSheet(Due due) {
        WindowLetters x = Due.shop(2, 1, 1, 1, 1);
        CutSheets.cut(x, 1, CutSheets.WHOLE);
        x.scrap(2);
        int piece = x.make(1, U, 1);
        due.is("the piece", piece, 16);
        due.is("its sheet", x.of(piece, 5), 3);
        due.is("its place", x.of(piece, 6), 0);
        due.is("its way", x.of(piece, 7), 4);
        due.is("the sheet of the other colour", x.of(x.make(2, U, 0), 5), 0);
        WindowLetters last = Due.shop(4, 3, 3, 2, 2, 1);
        due.is("the last sheet", last.of(last.make(1, I, 0), 5), 5);
    }

    private static void makeNoSuch(Due due) {
        due.bounds("make(1, letter, 0)", 0, 7, NO_SUCH, letter -> Due.shop(1).make(1, letter, 0));
        due.is("ahead of no colour", Due.shop(1).make(0, 8, 0), NO_SUCH);
        due.is("ahead of mirrored 2", Due.shop(1).make(1, -1, 2), NO_SUCH);
        due.is("ahead of no sheet", new WindowLetters().make(1, 8, 0), NO_SUCH);
        due.is("ahead of too many", Due.fullShop().make(1, 8, 0), NO_SUCH);
    }

    private static void makeBadValue(Due due) {
        due.bounds("make(colour, I, 0)", 1, 4, BAD_VALUE, colour -> Due.shop(1, 2, 3, 4).make(colour, I, 0));
        due.bounds("make(1, I, mirrored)", 0, 1, BAD_VALUE, mirrored -> Due.shop(1).make(1, I, mirrored));
        due.is("colour, ahead of no sheet", new WindowLetters().make(5, I, 0), BAD_VALUE);
        due.is("mirrored, ahead of no sheet", new WindowLetters().make(1, I, 2), BAD_VALUE);
        due.is("ahead of too many", Due.fullShop().make(1, I, -1), BAD_VALUE);
    }

    private static void makeNotPossible(Due due) {
        due.is("without sheets", new WindowLetters().make(1, I, 0), NOT_POSSIBLE);
        due.is("without a sheet of the colour", Due.shop(1, 2, 4).make(3, I, 0), NOT_POSSIBLE);
        WindowLetters scrapped = Due.shop(3);
        scrapped.scrap(0);
        due.is("with a scrapped one alone", scrapped.make(3, I, 0), NOT_POSSIBLE);
        due.is("with one that is cut wholly", CutSheets.shop(CutSheets.WHOLE).make(1, I, 0), NOT_POSSIBLE);
        WindowLetters x = CutSheets.shop(CutSheets.BUT_LAST_LYING);
        due.is("the last place", x.make(1, H, 0), 15);
        due.is("when it is gone", x.make(1, H, 0), NOT_POSSIBLE);
        due.is("ahead of too many, as all sheets are cut wholly", CutSheets.threeWhole(0).make(1, I, 0), NOT_POSSIBLE);
    }

    private static void makeTooMany(Due due) {
        WindowLetters x = CutSheets.threeWhole(1);
        due.is("the 49th", x.make(1, I, 0), TOO_MANY);
        due.is("of another colour it is not possible first", x.make(2, I, 0), NOT_POSSIBLE);
        x.throwAway(0);
        due.is("the 49th when one is waste", x.make(1, I, 0), TOO_MANY);
        x.undo();
        x.undo();
        due.is("the 48th", x.make(1, T, 0), 47);
        due.is("the 49th again", x.make(1, I, 0), TOO_MANY);
    }

    // ---- 5

    private static void writeCuts(Due due) {
        due.is("all twelve", withPad(Due.shop(1, 1), "ilotuehsilot").write(0, 0, 1, 0), 12);
        due.is("none of three", withPad(withLoose(O, I, L), "oil").write(0, 0, 1, 0), 0);
        due.is("one of three", withPad(withLoose(O, L), "oil").write(0, 0, 1, 0), 1);
        due.is("two of three, as a loose one is put once", withPad(withLoose(L), "lll").write(0, 0, 1, 0), 2);
        due.is("a single one", withPad(Due.shop(1), "s").write(2, 11, 1, 1), 1);
    }

    private static void writeEmptiesPad(Due due) {
        WindowLetters x = withPad(withLoose(O), "o");
        x.write(0, 0, 1, 0);
        due.is("the length", x.count(8), 0);
        due.is("the fault", x.fault(), 0);
        due.is("once more", x.write(0, 1, 1, 0), BAD_TEXT);
        Due.pad(x, "oo");
        due.is("not done", x.write(0, 11, 1, 0), NOT_POSSIBLE);
        due.is("the length when it was not done", x.count(8), 2);
        due.is("what the pad tells yet", x.write(0, 10, 1, 0), 2);
        due.is("the first letter", x.of(x.pane(0, 10), 0), O);
    }

    private static void writeNoSuch(Due due) {
        due.bounds("write(pane, 0, 1, 0)", 0, 2, NO_SUCH, pane -> withPad(Due.shop(1), "i").write(pane, 0, 1, 0));
        due.bounds("write(0, place, 1, 0)", 0, 11, NO_SUCH, place -> withPad(Due.shop(1), "i").write(0, place, 1, 0));
        due.is("pane, ahead of a bad text", new WindowLetters().write(3, 0, 1, 0), NO_SUCH);
        due.is("place, ahead of a bad text", new WindowLetters().write(0, 12, 1, 0), NO_SUCH);
        due.is("pane, ahead of no colour", withPad(Due.shop(1), "i").write(-1, 0, 0, 0), NO_SUCH);
        due.is("place, ahead of mirrored 2", withPad(Due.shop(1), "i").write(0, -1, 1, 2), NO_SUCH);
    }

    private static void writeBadText(Due due) {
        String[] bad = {"", "a", "I", "il-", "xil", "ilotuehsiloto", "ilotuehsilox", "iiiiiiiiiiiiiiiiiiii"};
        for (String text : bad) {
            due.is("\"" + text + "\"", withPad(Due.shop(1, 1), text).write(0, 0, 1, 0), BAD_TEXT);
        }
        due.is("ahead of no colour", Due.shop(1).write(0, 0, 0, 0), BAD_TEXT);
        due.is("ahead of mirrored 2", Due.shop(1).write(0, 0, 1, 2), BAD_TEXT);
        due.is("ahead of what cannot be done", withPad(new WindowLetters(), "a").write(0, 11, 1, 0), BAD_TEXT);
    }

    private static void writeBadValue(Due due) {
        due.bounds("write(0, 0, colour, 0)", 1, 4, BAD_VALUE,
            colour -> withPad(Due.shop(1, 2, 3, 4), "i").write(0, 0, colour, 0));
        due.bounds("write(0, 0, 1, mirrored)", 0, 1, BAD_VALUE,
            mirrored -> withPad(Due.shop(1), "i").write(0, 0, 1, mirrored));
    }

    private static void writeOrderOfErrors(Due due) {
        WindowLetters x = withPad(new WindowLetters(), "il");
        due.is("no sheets, beyond the last place, mirrored 2", x.write(0, 11, 1, 2), BAD_VALUE);
        due.is("no sheets, beyond the last place, no colour", x.write(0, 11, 5, 0), BAD_VALUE);
        due.is("no sheets, beyond the last place", x.write(0, 11, 1, 0), NOT_POSSIBLE);
    }

    /** The L's: another colour, mirrored, waste, in a pane, and two that are loose. */
    private static void writeLowestLoose(Due due) {
        WindowLetters x = Due.shop(2, 1);
        x.make(2, L, 0);
        x.make(1, L, 1);
        for (int i = 0; i < 4; i++) {
            x.make(1, L, 0);
        }
        x.throwAway(2);
        x.place(3, 1, 0);
        Due.pad(x, "lll");
        due.is("pieces that are cut", x.write(0, 3, 1, 0), 1);
        due.is("the first place", x.pane(0, 3), 4);
        due.is("the second place", x.pane(0, 4), 5);
        due.is("the third place", x.pane(0, 5), 6);
        Due.pad(x, "l");
        due.is("mirrored", x.write(0, 6, 1, 1), 0);
        due.is("the mirrored one", x.pane(0, 6), 1);
        Due.pad(x, "l");
        due.is("the other colour", x.write(0, 7, 2, 0), 0);
        due.is("the one of the other colour", x.pane(0, 7), 0);
    }

    /** The sheet 0 has room for one O in its last corner, 1 is of another colour, 2 is scrapped, 3 is whole. */
    private static void writeNewPieces(Due due) {
        WindowLetters x = Due.shop(1, 2, 1, 1);
        CutSheets.cut(x, 0, CutSheets.BUT_LAST_UPRIGHT);
        x.scrap(2);
        Due.pad(x, "oos");
        due.is("pieces that are cut", x.write(1, 0, 1, 0), 3);
        int[] sheets = {0, 3, 3};
        int[] corners = {4 * 14 + 11, 0, 3};
        int[] ways = {0, 0, 0};
        for (int i = 0; i < 3; i++) {
            due.is("the piece in the place " + i, x.pane(1, i), 17 + i);
            due.is("its sheet", x.of(17 + i, 5), sheets[i]);
            due.is("its corner", x.of(17 + i, 6), corners[i]);
            due.is("its way", x.of(17 + i, 7), ways[i]);
            due.is("it is in a pane", x.of(17 + i, 3), 1);
        }
    }

    /** The last letter cannot be had: those ahead are neither taken from the loose ones nor cut. */
    private static void writeAllOrNothing(Due due) {
        ToIntFunction<WindowLetters> write = x -> x.write(0, 0, 1, 0);
        due.refuses("one O too many", NOT_POSSIBLE, () -> {
            WindowLetters x = CutSheets.shop(CutSheets.BUT_LAST_UPRIGHT);
            x.undo();
            return withPad(x, "ioo");
        }, write);
        due.refuses("the last place is taken", NOT_POSSIBLE, () -> {
            WindowLetters x = withLoose(I, L);
            x.place(1, 0, 2);
            return withPad(x, "iso");
        }, write);
        due.refuses("beyond the last place", NOT_POSSIBLE, () -> withPad(withLoose(I), "il"), x -> x.write(0, 11, 1, 0));
        due.refuses("mirrored, the first letter is the last one", NOT_POSSIBLE, () -> {
            WindowLetters x = CutSheets.shop(CutSheets.BUT_LAST_LYING);
            return withPad(x, "oo");
        }, x -> x.write(0, 0, 1, 1));
    }

    private static void writeTakenPlace(Due due) {
        for (int first = 0; first <= 9; first++) {
            WindowLetters x = withLoose(I);
            x.place(0, 1, 6);
            Due.pad(x, "out");
            boolean taken = first >= 4 && first <= 6;
            due.is("write(1, " + first + ", 1, 0)", x.write(1, first, 1, 0), taken ? NOT_POSSIBLE : 3);
            due.is("the taken place", x.pane(1, 6), 0);
        }
        WindowLetters x = withLoose(I);
        x.place(0, 1, 6);
        due.is("another pane", withPad(x, "out").write(0, 5, 1, 0), 3);
        x.clear(1);
        due.is("when it is free again", withPad(x, "out").write(1, 5, 1, 0), 3);
    }

    private static void writeBeyondLastPlace(Due due) {
        String name = "ilotuehsilot";
        for (int length = 1; length <= 12; length++) {
            String text = name.substring(0, length);
            due.is(text + " up to the last place", withPad(Due.shop(1, 1), text).write(0, 12 - length, 1, 0), length);
            if (length > 1) {
                WindowLetters x = withPad(Due.shop(1, 1), text);
                due.is(text + " beyond the last place", x.write(0, 13 - length, 1, 0), NOT_POSSIBLE);
                due.is("the next pane's first place", x.pane(1, 0), NONE);
                due.is(text + " beyond the last place, mirrored", x.write(2, 13 - length, 1, 1), NOT_POSSIBLE);
            }
        }
    }

    private static void writeLetterNotHad(Due due) {
        due.is("no sheets", withPad(new WindowLetters(), "i").write(0, 0, 1, 0), NOT_POSSIBLE);
        due.is("no sheet of the colour", withPad(Due.shop(1, 3, 4), "i").write(0, 0, 2, 0), NOT_POSSIBLE);
        WindowLetters scrapped = withPad(withLoose(I), "ii");
        scrapped.scrap(0);
        due.is("a scrapped sheet", scrapped.write(0, 0, 1, 0), NOT_POSSIBLE);
        due.is("a scrapped sheet, but a loose piece", withPad(scrapped, "i").write(0, 0, 1, 0), 0);
        WindowLetters whole = withPad(CutSheets.shop(CutSheets.WHOLE), "s");
        due.is("no fit", whole.write(0, 0, 1, 0), NOT_POSSIBLE);
        due.is("no fit, but a loose piece", withPad(whole, "l").write(0, 0, 1, 0), 0);
        due.is("a loose piece, but not mirrored", withPad(whole, "u").write(0, 1, 1, 1), NOT_POSSIBLE);
        due.is("seven O's of a sheet of six", withPad(Due.shop(1), "ooooooo").write(0, 0, 1, 1), NOT_POSSIBLE);
        due.is("six O's of a sheet of six", withPad(Due.shop(1), "oooooo").write(0, 0, 1, 1), 6);
    }

    private static void writeFortyEightPieces(Due due) {
        WindowLetters x = Due.fullShop();
        due.is("twelve loose ones", withPad(x, "iiiiiiiiiiii").write(0, 0, 1, 0), 0);
        due.is("a 49th", withPad(x, "l").write(1, 0, 1, 0), NOT_POSSIBLE);
        due.is("a 49th behind a loose one", withPad(x, "il").write(1, 0, 1, 0), NOT_POSSIBLE);
        due.is("an I, but mirrored, would be a 49th", withPad(x, "i").write(1, 0, 1, 1), NOT_POSSIBLE);
        WindowLetters near = Due.fullShop();
        near.undo();
        due.is("a 48th and a 49th", withPad(near, "ll").write(0, 0, 1, 0), NOT_POSSIBLE);
        due.is("a 48th between loose ones", withPad(near, "ili").write(0, 0, 1, 0), 1);
        due.is("pieces so far", near.count(1), 48);
    }

    private static void writeMirrored(Due due) {
        WindowLetters x = withPad(Due.shop(1, 1), "ilotuehsilot");
        due.is("twelve, mirrored", x.write(2, 0, 1, 1), 12);
        int[] letters = {T, O, L, I, S, H, E, U, T, O, L, I};
        for (int place = 0; place < 12; place++) {
            int piece = x.pane(2, place);
            due.is("the piece in the place " + place, piece, place);
            due.is("its letter", x.of(piece, 0), letters[place]);
            due.is("it is mirrored", x.of(piece, 2), 1);
        }
        WindowLetters loose = Due.shop(1);
        loose.make(1, L, 1);
        loose.make(1, I, 1);
        loose.make(1, L, 1);
        due.is("loose ones, from the last letter on", withPad(loose, "lil").write(0, 0, 1, 1), 0);
        due.is("the place of the last letter", loose.pane(0, 0), 0);
        due.is("the place of the first letter", loose.pane(0, 2), 2);
    }

    // ---- 6 to 9

    private static void placeCounts(Due due) {
        WindowLetters x = Due.fullShop();
        x.place(40, 0, 11);
        x.place(41, 2, 0);
        for (int place = 0; place < 12; place++) {
            due.is("the piece " + place + " of the pane 1", x.place(place, 1, 11 - place), place + 1);
        }
        due.is("the second one of the pane 0", x.place(42, 0, 0), 2);
        x.clear(1);
        due.is("the first one again", x.place(11, 1, 5), 1);
    }

    private static void placeNoSuch(Due due) {
        due.bounds("place(piece, 0, 0)", 0, 1, NO_SUCH, piece -> withLoose(I, L).place(piece, 0, 0));
        due.bounds("place(piece, 0, 0) of 48", 0, 47, NO_SUCH, piece -> Due.fullShop().place(piece, 0, 0));
        due.bounds("place(0, pane, 0)", 0, 2, NO_SUCH, pane -> withLoose(I).place(0, pane, 0));
        due.bounds("place(0, 0, place)", 0, 11, NO_SUCH, place -> withLoose(I).place(0, 0, place));
        WindowLetters x = withLoose(I, L);
        x.throwAway(0);
        due.is("no pane, ahead of waste", x.place(0, 3, 0), NO_SUCH);
        due.is("no place, ahead of waste", x.place(0, 0, 12), NO_SUCH);
        x.place(1, 0, 0);
        due.is("no piece, ahead of a taken place", x.place(2, 0, 0), NO_SUCH);
        x.undo();
        x.undo();
        x.undo();
        due.is("a piece that is not cut any more", x.place(1, 0, 0), NO_SUCH);
    }

    private static void placeNotLoose(Due due) {
        WindowLetters x = withLoose(I, L);
        x.place(0, 0, 0);
        due.is("to its own place", x.place(0, 0, 0), NOT_POSSIBLE);
        due.is("to another place", x.place(0, 0, 1), NOT_POSSIBLE);
        due.is("to another pane", x.place(0, 2, 0), NOT_POSSIBLE);
        due.is("its place", x.of(0, 4), 0);
        x.clear(0);
        due.is("when it is loose again", x.place(0, 2, 0), 1);
        x.throwAway(1);
        due.is("waste", x.place(1, 0, 0), NOT_POSSIBLE);
    }

    private static void placeTaken(Due due) {
        WindowLetters x = withLoose(I, L, T);
        x.place(2, 1, 0);
        due.is("the taken place", x.place(0, 1, 0), NOT_POSSIBLE);
        due.is("the same place of the pane ahead", x.place(0, 0, 0), 1);
        due.is("the place next to it", x.place(1, 1, 1), 2);
        due.is("the piece in the taken place", x.pane(1, 0), 2);
    }

    private static void clearCounts(Due due) {
        WindowLetters x = Due.fullShop();
        due.is("an empty pane", x.clear(0), 0);
        due.is("it is recorded", x.count(9), 6);
        for (int i = 0; i < 36; i++) {
            x.place(i, i / 12, i % 12);
        }
        due.is("a full pane", x.clear(1), 12);
        for (int place = 0; place < 12; place++) {
            due.is("the place " + place, x.pane(1, place), NONE);
            due.is("its piece is loose", x.of(12 + place, 3), 0);
            due.is("it has no place", x.of(12 + place, 4), NONE);
            due.is("the same place of the pane ahead", x.pane(0, place), place);
            due.is("the same place of the pane behind", x.pane(2, place), 24 + place);
        }
        due.is("the pane again", x.clear(1), 0);
        x.place(47, 1, 11);
        due.is("a pane with its last place taken alone", x.clear(1), 1);
    }

    private static void clearNoSuch(Due due) {
        due.bounds("clear(pane)", 0, 2, NO_SUCH, pane -> withLoose(I).clear(pane));
    }

    private static void throwAwaySquares(Due due) {
        for (int letter = 0; letter < 8; letter++) {
            WindowLetters x = withLoose(letter, letter);
            due.is("throwAway of " + letter, x.throwAway(1), SQUARES[letter]);
            due.is("it is waste", x.of(1, 3), 2);
            due.is("the other one is loose", x.of(0, 3), 0);
            due.is("squares of waste", x.count(5), SQUARES[letter]);
        }
        due.is("the last one of 48", Due.fullShop().throwAway(47), 5);
    }

    private static void throwAwayNoSuch(Due due) {
        due.bounds("throwAway(piece)", 0, 2, NO_SUCH, piece -> withLoose(I, L, T).throwAway(piece));
        due.bounds("throwAway(piece) of 48", 0, 47, NO_SUCH, piece -> Due.fullShop().throwAway(piece));
        due.is("without pieces", Due.shop(1).throwAway(0), NO_SUCH);
    }

    private static void throwAwayNotLoose(Due due) {
        WindowLetters x = withLoose(I, L);
        x.throwAway(0);
        due.is("waste", x.throwAway(0), NOT_POSSIBLE);
        x.place(1, 0, 0);
        due.is("in a pane", x.throwAway(1), NOT_POSSIBLE);
        due.is("it stands there yet", x.pane(0, 0), 1);
        x.clear(0);
        due.is("when it is loose again", x.throwAway(1), 7);
    }

    private static void scrapSquares(Due due) {
        due.is("a sheet that is not cut", Due.shop(1).scrap(0), 126);
        due.is("a sheet that is cut wholly", CutSheets.shop(CutSheets.WHOLE).scrap(0), 0);
        due.is("a sheet that is cut but for a corner", CutSheets.shop(CutSheets.BUT_LAST_UPRIGHT).scrap(0), 15);
        WindowLetters x = withLoose(O);
        x.throwAway(0);
        due.is("without the squares of its waste", x.scrap(0), 126 - 12);
        due.is("all squares of waste", x.count(5), 126);
    }

    private static void scrapNoSuch(Due due) {
        due.bounds("scrap(sheet)", 0, 1, NO_SUCH, sheet -> Due.shop(1, 2).scrap(sheet));
        due.bounds("scrap(sheet) of 6", 0, 5, NO_SUCH, sheet -> Due.shop(1, 2, 3, 4, 1, 2).scrap(sheet));
        due.is("without sheets", new WindowLetters().scrap(0), NO_SUCH);
    }

    private static void scrapScrapped(Due due) {
        WindowLetters x = Due.shop(1, 1);
        x.scrap(0);
        due.is("once more", x.scrap(0), NOT_POSSIBLE);
        due.is("the other one", x.scrap(1), 126);
        x.undo();
        x.undo();
        due.is("when it is not scrapped any more", x.scrap(0), 126);
        WindowLetters whole = CutSheets.shop(CutSheets.WHOLE);
        whole.scrap(0);
        due.is("a sheet without squares once more", whole.scrap(0), NOT_POSSIBLE);
    }
}
