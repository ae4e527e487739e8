/** The promises 10 to 19: what there is, and what if. */
public final class AnswersTest {
    private static final int NO_SUCH = -1, BAD_VALUE = -2, NONE = -6;
    private static final int I = 0, L = 1, O = 2, T = 3, U = 4, E = 5, H = 6, S = 7;

    public static void main(String[] args) {
        Due due = new Due("AnswersTest");
        due.part("10 of", AnswersTest::of);
        due.part("11 ofSheet", AnswersTest::ofSheet);
        due.part("12 row", AnswersTest::row);
        due.part("13 pane", AnswersTest::pane);
        due.part("14 shape", AnswersTest::shape);
        due.part("15 count", AnswersTest::count);
        due.part("16 fit", AnswersTest::fit);
        due.part("17 manyOf", AnswersTest::manyOf);
        due.part("18 fits", AnswersTest::fits);
        due.part("19 colours", AnswersTest::colours);
        due.end();
    }

    private static void of(Due due) {
        WindowLetters x = Due.shop(4, 3);
        x.cut(1, S, 6, 3, 8);
        x.place(0, 2, 7);
        int[] standing = {S, 3, 1, 1, 31, 1, 50, 6};
        for (int what = 0; what < 8; what++) {
            due.is("of(0, " + what + ")", x.of(0, what), standing[what]);
        }
        x.cut(0, H, 3, 6, 9);
        x.throwAway(1);
        int[] waste = {H, 4, 0, 2, NONE, 0, 93, 3};
        for (int what = 0; what < 8; what++) {
            due.is("of(1, " + what + ")", x.of(1, what), waste[what]);
        }
        due.is("of(2, 8)", x.of(2, 8), NO_SUCH);
        due.is("of(0, 8)", x.of(0, 8), BAD_VALUE);
    }

    private static void ofSheet(Due due) {
        WindowLetters x = Due.shop(4, 2);
        x.make(2, O, 0);
        x.make(2, I, 0);
        x.make(2, I, 1);
        x.throwAway(1);
        int[] second = {2, 126 - 12 - 10, 3, 0, 255};
        for (int what = 0; what < 5; what++) {
            due.is("ofSheet(1, " + what + ")", x.ofSheet(1, what), second[what]);
        }
        x.scrap(1);
        int[] scrapped = {2, 126 - 12 - 10, 3, 1, 0};
        for (int what = 0; what < 5; what++) {
            due.is("scrapped: ofSheet(1, " + what + ")", x.ofSheet(1, what), scrapped[what]);
        }
        due.is("ofSheet(2, 5)", x.ofSheet(2, 5), NO_SUCH);
        due.is("ofSheet(1, 5)", x.ofSheet(1, 5), BAD_VALUE);
        due.is("room for I's: ofSheet(0, 4)", onlyRoomForI().ofSheet(0, 4), 1 << I);
        WindowLetters mirrored = onlyRoomForMirroredS();
        due.is("an S that is not mirrored", mirrored.fit(0, S, 0, 0), NONE);
        due.is("a mirrored one", mirrored.fit(0, S, 1, 0), 5);
        due.is("all but an O: ofSheet(0, 4)", mirrored.ofSheet(0, 4), 255 - (1 << O));
    }

    /**
     * A sheet on which I's fit and nothing else: its rows 0 to 4 are free in the columns 0 and 13 alone,
     * 5 in 5 to 8, 6 in 10 to 13, 7 in 0 to 8, and 8 in all.
     */
    private static WindowLetters onlyRoomForI() {
        WindowLetters x = Due.shop(1);
        for (int column = 0; column < 12; column++) {
            x.cut(0, I, 0, 0, column);
        }
        x.cut(0, I, 1, 4, 0);
        x.cut(0, I, 1, 4, 9);
        x.cut(0, I, 1, 5, 0);
        x.cut(0, I, 1, 5, 5);
        x.cut(0, I, 1, 6, 9);
        return x;
    }

    /** A sheet on which an S fits if it is mirrored, and not if it is not: between an H and the edge above. */
    private static WindowLetters onlyRoomForMirroredS() {
        WindowLetters x = Due.shop(1);
        x.cut(0, H, 4, 2, 7);
        x.cut(0, E, 4, 2, 2);
        x.cut(0, I, 2, 4, 10);
        return x;
    }

    private static void row(Due due) {
        WindowLetters x = Due.shop(1);
        x.cut(0, H, 0, 4, 11);
        for (int row = 0; row < 4; row++) {
            due.is("row(0, " + row + ")", x.row(0, row), 0);
        }
        int[] rows = {5, 5, 7, 5, 5};
        for (int row = 4; row < 9; row++) {
            due.is("row(0, " + row + ")", x.row(0, row), rows[row - 4] << 11);
        }
        x.scrap(0);
        due.is("of a scrapped one", x.row(0, 8), 5 << 11);
        due.is("row(0, 9)", x.row(0, 9), NO_SUCH);
        due.is("row(1, 0)", x.row(1, 0), NO_SUCH);
    }

    private static void pane(Due due) {
        WindowLetters x = Due.shop(1);
        x.make(1, I, 0);
        x.make(1, I, 0);
        x.place(1, 0, 0);
        x.place(0, 2, 11);
        due.is("pane(0, 0)", x.pane(0, 0), 1);
        due.is("pane(2, 11)", x.pane(2, 11), 0);
        due.is("pane(1, 0)", x.pane(1, 0), NONE);
        due.is("pane(3, 0)", x.pane(3, 0), NO_SUCH);
        due.is("pane(0, 12)", x.pane(0, 12), NO_SUCH);
    }

    /** S in all ways, written out by hand, and the upright rows of all letters. */
    private static void shape(Due due) {
        WindowLetters x = new WindowLetters();
        int[][] upright = {{2, 2, 2, 2, 2}, {1, 1, 1, 1, 7}, {7, 5, 5, 5, 7}, {7, 2, 2, 2, 2},
            {5, 5, 5, 5, 7}, {7, 1, 7, 1, 7}, {5, 5, 7, 5, 5}, {7, 1, 7, 4, 7}};
        for (int letter = 0; letter < 8; letter++) {
            for (int row = 0; row < 5; row++) {
                due.is("shape(" + letter + ", 0, " + row + ")", x.shape(letter, 0, row), upright[letter][row]);
            }
        }
        int[][] ofL = {{1, 1, 1, 1, 7}, {31, 1, 1, 0, 0}, {7, 4, 4, 4, 4}, {16, 16, 31, 0, 0},
            {4, 4, 4, 4, 7}, {1, 1, 31, 0, 0}, {7, 1, 1, 1, 1}, {31, 16, 16, 0, 0}};
        int[][] ofS = {{7, 1, 7, 4, 7}, {29, 21, 23, 0, 0}, {7, 1, 7, 4, 7}, {29, 21, 23, 0, 0},
            {7, 4, 7, 1, 7}, {23, 21, 29, 0, 0}, {7, 4, 7, 1, 7}, {23, 21, 29, 0, 0}};
        for (int way = 0; way < 8; way++) {
            for (int row = 0; row < 5; row++) {
                due.is("shape(L, " + way + ", " + row + ")", x.shape(L, way, row), ofL[way][row]);
                due.is("shape(S, " + way + ", " + row + ")", x.shape(S, way, row), ofS[way][row]);
            }
        }
    }

    private static void count(Due due) {
        WindowLetters x = Due.shop(1, 2, 3);
        Due.pad(x, "oil");
        x.write(0, 0, 1, 0);
        x.make(2, T, 0);
        x.make(2, E, 0);
        x.make(3, L, 1);
        x.make(3, O, 1);
        x.throwAway(6);
        x.throwAway(3);
        x.scrap(2);
        Due.pad(x, "x~!");
        int[] counts = {3, 7, 2, 3, 2, 12 + 7 + 107, 102 + 108, 24 + 11 + 7, 3, 6};
        for (int what = 0; what < 10; what++) {
            due.is("count(" + what + ")", x.count(what), counts[what]);
        }
        due.is("count(10)", x.count(10), BAD_VALUE);
    }

    private static void fit(Due due) {
        WindowLetters x = Due.shop(1);
        expectFit(due, x, L, 0, 0, 0, 0);
        expectFit(due, x, L, 1, 4, 0, 0);
        x.make(1, L, 0);
        expectFit(due, x, L, 0, 1, 0, 1);
        expectFit(due, x, L, 1, 5, 0, 1);
        expectFit(due, x, I, 0, 1, 0, 1);
        expectFit(due, x, I, 1, 5, 0, 1);
        expectFit(due, x, O, 0, 1, 0, 1);
        x.cut(0, I, 1, 0, 1);
        expectFit(due, x, I, 0, 0, 0, 5);
        WindowLetters low = Due.shop(1);
        for (int column = 0; column < 12; column++) {
            low.cut(0, I, 0, 0, column);
        }
        expectFit(due, low, I, 0, 1, 4, 0);
        expectFit(due, low, I, 1, 5, 4, 0);
        expectFit(due, low, O, 0, 1, 5, 0);
        low.scrap(0);
        for (int what = 0; what < 3; what++) {
            due.is("scrapped: fit(0, I, 0, " + what + ")", low.fit(0, I, 0, what), NONE);
            due.is("none: fit(0, O, 1, " + what + ")", onlyRoomForI().fit(0, O, 1, what), NONE);
        }
    }

    private static void expectFit(Due due, WindowLetters x, int letter, int mirrored, int way, int row, int column) {
        String call = "fit(0, " + letter + ", " + mirrored + ", ";
        due.is(call + "0)", x.fit(0, letter, mirrored, 0), way);
        due.is(call + "1)", x.fit(0, letter, mirrored, 1), row);
        due.is(call + "2)", x.fit(0, letter, mirrored, 2), column);
    }

    /** What manyOf tells is what make can do, one call after the other. */
    private static void manyOf(Due due) {
        due.is("I's on an empty sheet", Due.shop(1).manyOf(0, I, 0), 18);
        for (int letter = 0; letter < 8; letter++) {
            for (int mirrored = 0; mirrored < 2; mirrored++) {
                WindowLetters x = Due.shop(1);
                x.cut(0, T, 0, 2, 4);
                int many = x.manyOf(0, letter, mirrored);
                int made = 0;
                while (made < 40 && x.make(1, letter, mirrored) >= 0) {
                    made++;
                }
                due.is("manyOf(0, " + letter + ", " + mirrored + ")", many, made);
                due.is("and then", x.manyOf(0, letter, mirrored), 0);
            }
        }
        WindowLetters full = Due.fullShop();
        due.is("beyond the bound of pieces", full.manyOf(0, I, 0), 6);
        due.is("no sheet", full.manyOf(4, 0, 2), NO_SUCH);
        due.is("no letter", full.manyOf(0, 8, 2), NO_SUCH);
        due.is("mirrored 2", full.manyOf(0, 0, 2), BAD_VALUE);
        full.scrap(0);
        due.is("scrapped", full.manyOf(0, I, 0), 0);
    }

    private static void fits(Due due) {
        WindowLetters x = Due.shop(1);
        for (int letter = 0; letter < 8; letter++) {
            due.is("fits(0, " + letter + ")", x.fits(0, letter), 4 * (5 * 12 + 7 * 10));
        }
        for (int column = 0; column < 12; column++) {
            x.cut(0, I, 0, 0, column);
        }
        // Only lying I's fit below the stripes, at the rows 4 to 6.
        due.is("fits(0, I)", x.fits(0, I), 4 * 3 * 10);
        due.is("fits(0, O)", x.fits(0, O), 4 * 2 * 10);
        due.is("no sheet", x.fits(1, 0), NO_SUCH);
        due.is("no letter", x.fits(0, 8), NO_SUCH);
        x.scrap(0);
        due.is("scrapped", x.fits(0, I), 0);
    }

    private static void colours(Due due) {
        WindowLetters x = Due.shop(4, 2, 3);
        Due.pad(x, "uh");
        due.is("three sheets", x.colours(0, 0, 0), 1 << 4 | 1 << 2 | 1 << 3);
        due.is("beyond the last place", x.colours(0, 11, 0), 0);
        x.scrap(1);
        due.is("one scrapped", x.colours(0, 0, 1), 1 << 4 | 1 << 3);
        x.make(3, I, 0);
        x.place(0, 0, 1);
        due.is("a place is taken", x.colours(0, 0, 0), 0);
        due.is("the next one is not", x.colours(0, 2, 0), 1 << 4 | 1 << 3);
        WindowLetters full = Due.fullShop();
        Due.pad(full, "ii");
        due.is("48 pieces, loose ones suffice", full.colours(1, 10, 0), 1 << 1);
        due.is("48 pieces, but none mirrored", full.colours(1, 10, 1), 0);
        Due.pad(full, "io");
        due.is("48 pieces, a cut is needed", full.colours(1, 0, 0), 0);
        due.is("the pad is kept", full.count(8), 2);
    }

}
