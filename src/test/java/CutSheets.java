/** Sheets that are cut wholly, or but for one corner, as it takes many pieces that lie close to one another. */
final class CutSheets {
    /** Letter, way, row and column of 16 pieces that leave no square of a sheet. */
    static final int[][] WHOLE = {
        {3, 3, 0, 0}, {4, 2, 3, 0}, {3, 2, 4, 0}, {4, 3, 0, 1}, {4, 2, 3, 3}, {3, 2, 4, 3}, {1, 1, 0, 6}, {0, 0, 3, 5},
        {3, 2, 4, 6}, {3, 3, 1, 7}, {4, 3, 1, 8}, {1, 1, 4, 8}, {0, 1, 6, 8}, {0, 1, 4, 9}, {4, 3, 6, 9}, {1, 2, 0, 11},
    };

    /** 17 pieces that leave the 15 squares at which a letter stands upright in the lower right corner. */
    static final int[][] BUT_LAST_UPRIGHT = {
        {1, 6, 0, 0}, {0, 1, 4, 0}, {4, 1, 6, 0}, {1, 5, 1, 1}, {0, 1, 3, 1}, {1, 3, 5, 1}, {0, 1, 0, 2}, {0, 1, 1, 2},
        {1, 7, 0, 3}, {3, 2, 4, 5}, {3, 0, 3, 6}, {3, 3, 0, 8}, {0, 0, 4, 7}, {4, 3, 0, 9}, {0, 1, 2, 9}, {0, 0, 4, 8},
        {0, 0, 4, 9},
    };

    /** 15 pieces that leave the 15 squares at which a letter lies in the lower right corner. */
    static final int[][] BUT_LAST_LYING = {
        {3, 3, 0, 0}, {4, 2, 3, 0}, {3, 2, 4, 0}, {4, 3, 0, 1}, {1, 3, 1, 3}, {0, 1, 3, 3}, {0, 1, 4, 3}, {4, 1, 6, 3},
        {3, 1, 6, 4}, {1, 1, 0, 6}, {0, 0, 1, 7}, {0, 0, 1, 8}, {0, 0, 1, 9}, {3, 0, 0, 11}, {4, 0, 1, 11},
    };

    private CutSheets() {
    }

    /** A shop with one sheet of the colour 1, cut by the pieces. */
    static WindowLetters shop(int[][] pieces) {
        WindowLetters x = Due.shop(1);
        cut(x, 0, pieces);
        return x;
    }

    static void cut(WindowLetters x, int sheet, int[][] pieces) {
        for (int[] piece : pieces) {
            x.cut(sheet, piece[0], piece[1], piece[2], piece[3]);
        }
    }

    /** A shop with sheets of the colour 1, of which the first three are cut wholly, by 48 pieces. */
    static WindowLetters threeWhole(int moreSheets) {
        WindowLetters x = new WindowLetters();
        for (int i = 0; i < 3 + moreSheets; i++) {
            x.sheet(1);
        }
        for (int sheet = 0; sheet < 3; sheet++) {
            cut(x, sheet, WHOLE);
        }
        return x;
    }
}
