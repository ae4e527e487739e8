/**
 * Shop window letters cut from stock sheets. ../shared/DOC.md says what each public method
 * promises; every failed call answers one of the error codes and changes nothing.
 */
public final class WindowLetters {
    public static final int NO_SUCH = -1, BAD_VALUE = -2, BAD_TEXT = -3, TOO_MANY = -4, NOT_POSSIBLE = -5, NONE = -6;

    private static final int LETTERS = 8, WAYS = 8, TURNS = 4, LONG_SIDE = 5, SHORT_SIDE = 3;
    private static final int SHEETS = 6, COLOURS = 4, ROWS = 9, COLUMNS = 14;
    private static final int PIECES = 48, PANES = 3, PLACES = 12;
    private static final int LOOSE = 0, IN_PANE = 1, WASTE = 2;
    private static final int PAD_LENGTH = 80, NAME_LENGTH = 12, CHARACTERS = 8;
    private static final int FIRST_CODE = 33, LAST_CODE = 126;
    private static final int HISTORY = 6, SLOTS = 2;

    /** The characters of the letters 0 to 7, each at its letter's number. */
    private static final String LETTER_SIGNS = "ilotuehs";

    /** The five rows of each letter as the document's digits: 4 is left, 2 the middle, 1 right. */
    private static final int[] LETTER_ROWS = {
        2, 2, 2, 2, 2,
        4, 4, 4, 4, 7,
        7, 5, 5, 5, 7,
        7, 2, 2, 2, 2,
        5, 5, 5, 5, 7,
        7, 4, 7, 4, 7,
        5, 5, 7, 5, 5,
        7, 4, 7, 1, 7,
    };

    private final Shapes shapes = new Shapes();
    private final Shop shop = new Shop(shapes);
    private final Shop draft = new Shop(shapes);
    private final Sheet trialSheet = new Sheet(shapes);
    private final Shop[] slots = new Shop[SLOTS];
    private final History history = new History(shapes);
    private final Pad pad = new Pad();

    public WindowLetters() {
    }

    // ---- changes

    public int sheet(int colour) {
        if (!isColour(colour)) {
            return BAD_VALUE;
        }
        return settle(newDraft().addSheet(colour));
    }

    public int cut(int sheet, int letter, int way, int row, int column) {
        if (shop.sheetAt(sheet) == null || !isLetter(letter)) {
            return NO_SUCH;
        }
        if (!isWay(way)) {
            return BAD_VALUE;
        }
        return settle(newDraft().cutPiece(sheet, letter, way, row, column));
    }

    public int make(int colour, int letter, int mirrored) {
        if (!isLetter(letter)) {
            return NO_SUCH;
        }
        if (!isColour(colour) || !isMirroring(mirrored)) {
            return BAD_VALUE;
        }
        return settle(newDraft().makePiece(colour, letter, mirrored));
    }

    public int write(int pane, int place, int colour, int mirrored) {
        if (!isPane(pane) || !isPlace(place)) {
            return NO_SUCH;
        }
        if (pad.faultIndex() != NONE) {
            return BAD_TEXT;
        }
        if (!isColour(colour) || !isMirroring(mirrored)) {
            return BAD_VALUE;
        }
        int cuts = settle(newDraft().writeName(pad, pane, place, colour, mirrored));
        if (cuts >= 0) {
            pad.empty();
        }
        return cuts;
    }

    public int place(int piece, int pane, int place) {
        if (shop.pieceAt(piece) == null || !isPane(pane) || !isPlace(place)) {
            return NO_SUCH;
        }
        return settle(newDraft().putIntoPane(piece, pane, place));
    }

    public int clear(int pane) {
        if (!isPane(pane)) {
            return NO_SUCH;
        }
        return settle(newDraft().clearPane(pane));
    }

    public int throwAway(int piece) {
        if (shop.pieceAt(piece) == null) {
            return NO_SUCH;
        }
        return settle(newDraft().wastePiece(piece));
    }

    public int scrap(int sheet) {
        if (shop.sheetAt(sheet) == null) {
            return NO_SUCH;
        }
        return settle(newDraft().scrapSheet(sheet));
    }

    // ---- what there is

    public int of(int piece, int what) {
        Piece one = shop.pieceAt(piece);
        if (one == null) {
            return NO_SUCH;
        }
        switch (what) {
            case 0: return one.letter;
            case 1: return one.colour;
            case 2: return mirroringOf(one.way);
            case 3: return one.state;
            case 4: return one.spot;
            case 5: return one.sheet;
            case 6: return one.corner;
            case 7: return one.way;
            default: return BAD_VALUE;
        }
    }

    public int ofSheet(int sheet, int what) {
        Sheet one = shop.sheetAt(sheet);
        if (one == null) {
            return NO_SUCH;
        }
        switch (what) {
            case 0: return one.colour;
            case 1: return one.squaresLeft();
            case 2: return shop.piecesFrom(sheet);
            case 3: return one.scrapped ? 1 : 0;
            case 4: return one.lettersThatFit();
            default: return BAD_VALUE;
        }
    }

    public int row(int sheet, int row) {
        Sheet one = shop.sheetAt(sheet);
        if (one == null || row < 0 || row >= ROWS) {
            return NO_SUCH;
        }
        return one.cutColumns[row];
    }

    public int pane(int pane, int place) {
        if (!isPane(pane) || !isPlace(place)) {
            return NO_SUCH;
        }
        return shop.spots[pane * PLACES + place];
    }

    public int shape(int letter, int way, int row) {
        if (!isLetter(letter)) {
            return NO_SUCH;
        }
        if (!isWay(way) || row < 0 || row >= LONG_SIDE) {
            return BAD_VALUE;
        }
        return shapes.columnsOf(letter, way, row);
    }

    public int count(int what) {
        switch (what) {
            case 0: return shop.sheetCount;
            case 1: return shop.pieceCount;
            case 2: return shop.piecesThatAre(LOOSE);
            case 3: return shop.piecesThatAre(IN_PANE);
            case 4: return shop.piecesThatAre(WASTE);
            case 5: return shop.squaresOfPieces(WASTE) + shop.squaresOfSheets(true);
            case 6: return shop.squaresOfSheets(false);
            case 7: return shop.squaresOfPieces(LOOSE) + shop.squaresOfPieces(IN_PANE);
            case 8: return pad.length;
            case 9: return history.length;
            default: return BAD_VALUE;
        }
    }

    // ---- what if; nothing changes

    public int fit(int sheet, int letter, int mirrored, int what) {
        Sheet one = shop.sheetAt(sheet);
        if (one == null || !isLetter(letter)) {
            return NO_SUCH;
        }
        if (!isMirroring(mirrored) || what < 0 || what > 2) {
            return BAD_VALUE;
        }
        int found = one.firstFit(letter, mirrored);
        if (found == NONE) {
            return NONE;
        }
        switch (what) {
            case 0: return wayIn(found);
            case 1: return rowIn(found);
            default: return columnIn(found);
        }
    }

    public int manyOf(int sheet, int letter, int mirrored) {
        Sheet one = shop.sheetAt(sheet);
        if (one == null || !isLetter(letter)) {
            return NO_SUCH;
        }
        if (!isMirroring(mirrored)) {
            return BAD_VALUE;
        }
        trialSheet.copyFrom(one);
        return trialSheet.cutUp(letter, mirrored);
    }

    public int fits(int sheet, int letter) {
        Sheet one = shop.sheetAt(sheet);
        if (one == null || !isLetter(letter)) {
            return NO_SUCH;
        }
        return one.allFits(letter);
    }

    public int colours(int pane, int place, int mirrored) {
        if (!isPane(pane) || !isPlace(place)) {
            return NO_SUCH;
        }
        if (pad.faultIndex() != NONE) {
            return BAD_TEXT;
        }
        if (!isMirroring(mirrored)) {
            return BAD_VALUE;
        }
        int set = 0;
        for (int colour = 1; colour <= COLOURS; colour++) {
            if (newDraft().writeName(pad, pane, place, colour, mirrored) >= 0) {
                set |= 1 << colour;
            }
        }
        return set;
    }

    // ---- texts

    public int put(long characters) {
        return pad.append(characters);
    }

    public int wipe() {
        int length = pad.length;
        pad.empty();
        return length;
    }

    public int fault() {
        return pad.faultIndex();
    }

    // ---- undo, saving

    public int undo() {
        return history.takeBack(shop) ? history.length : NOT_POSSIBLE;
    }

    public int save(int slot) {
        if (!isSlot(slot)) {
            return BAD_VALUE;
        }
        Shop saved = slots[slot];
        if (saved == null) {
            saved = new Shop(shapes);
            slots[slot] = saved;
        }
        saved.copyFrom(shop);
        return shop.pieceCount;
    }

    public int restore(int slot) {
        if (!isSlot(slot)) {
            return BAD_VALUE;
        }
        Shop saved = slots[slot];
        if (saved == null) {
            return NOT_POSSIBLE;
        }
        draft.copyFrom(saved);
        return settle(draft.pieceCount);
    }

    // ---- how a change comes about

    /** Changes are tried on a copy, so that one that fails half-way leaves nothing behind. */
    private Shop newDraft() {
        draft.copyFrom(shop);
        return draft;
    }

    /** Takes the draft over if its answer is no error, and hands the answer on. */
    private int settle(int answer) {
        if (answer >= 0) {
            history.record(shop);
            shop.copyFrom(draft);
        }
        return answer;
    }

    // ---- what is in range

    private static boolean isColour(int colour) {
        return colour >= 1 && colour <= COLOURS;
    }

    private static boolean isLetter(int letter) {
        return letter >= 0 && letter < LETTERS;
    }

    private static boolean isWay(int way) {
        return way >= 0 && way < WAYS;
    }

    private static boolean isMirroring(int mirrored) {
        return mirrored == 0 || mirrored == 1;
    }

    private static boolean isPane(int pane) {
        return pane >= 0 && pane < PANES;
    }

    private static boolean isPlace(int place) {
        return place >= 0 && place < PLACES;
    }

    private static boolean isSlot(int slot) {
        return slot >= 0 && slot < SLOTS;
    }

    // ---- ways

    private static int heightOf(int way) {
        return way % 2 == 0 ? LONG_SIDE : SHORT_SIDE;
    }

    private static int widthOf(int way) {
        return way % 2 == 0 ? SHORT_SIDE : LONG_SIDE;
    }

    private static int mirroringOf(int way) {
        return way < TURNS ? 0 : 1;
    }

    // ---- fits, each a number: (row * COLUMNS + column) * WAYS + way

    private static int rowIn(int fit) {
        return fit / WAYS / COLUMNS;
    }

    private static int columnIn(int fit) {
        return fit / WAYS % COLUMNS;
    }

    private static int wayIn(int fit) {
        return fit % WAYS;
    }

    /** The lowest number in a set, and 32 if it is empty: how many bits stand below its lowest one. */
    private static int lowestIn(int set) {
        return Integer.bitCount(~set & set - 1);
    }

    /** The rows of all letters in all ways, worked out once because every fit asks for them. */
    private static final class Shapes {
        private final int[] rows = new int[LETTERS * WAYS * LONG_SIDE];

        Shapes() {
            for (int letter = 0; letter < LETTERS; letter++) {
                for (int way = 0; way < WAYS; way++) {
                    for (int row = 0; row < heightOf(way); row++) {
                        rows[(letter * WAYS + way) * LONG_SIDE + row] = turnedRow(letter, way, row);
                    }
                }
            }
        }

        /** The columns of a row, the leftmost one as the lowest bit; none for a row that it has not. */
        int columnsOf(int letter, int way, int row) {
            if (!isLetter(letter) || !isWay(way) || row < 0 || row >= LONG_SIDE) {
                return 0;
            }
            return rows[(letter * WAYS + way) * LONG_SIDE + row];
        }

        int squaresOf(int letter) {
            int squares = 0;
            for (int row = 0; row < LONG_SIDE; row++) {
                squares += Integer.bitCount(columnsOf(letter, 0, row));
            }
            return squares;
        }

        private static int turnedRow(int letter, int way, int row) {
            int columns = 0;
            for (int column = 0; column < widthOf(way); column++) {
                if (hasSquare(letter, way, row, column)) {
                    columns |= 1 << column;
                }
            }
            return columns;
        }

        /** Looks where the square was ahead of the turn, then where it was ahead of the mirroring. */
        private static boolean hasSquare(int letter, int way, int row, int column) {
            int oldRow = row;
            int oldColumn = column;
            switch (way % TURNS) {
                case 1:
                    oldRow = LONG_SIDE - 1 - column;
                    oldColumn = row;
                    break;
                case 2:
                    oldRow = LONG_SIDE - 1 - row;
                    oldColumn = SHORT_SIDE - 1 - column;
                    break;
                case 3:
                    oldRow = column;
                    oldColumn = SHORT_SIDE - 1 - row;
                    break;
                default:
                    break;
            }
            if (mirroringOf(way) == 1) {
                oldColumn = SHORT_SIDE - 1 - oldColumn;
            }
            return uprightHas(letter, oldRow, oldColumn);
        }

        private static boolean uprightHas(int letter, int row, int column) {
            if (!isLetter(letter) || row < 0 || row >= LONG_SIDE || column < 0 || column >= SHORT_SIDE) {
                return false;
            }
            int digit = LETTER_ROWS[letter * LONG_SIDE + row];
            return (digit & 4 >> column) != 0;
        }
    }

    /** A stock sheet, with the columns that are cut of each of its rows. */
    private static final class Sheet {
        private final Shapes shapes;
        private final int[] cutColumns = new int[ROWS];
        private int colour;
        private boolean scrapped;

        Sheet(Shapes shapes) {
            this.shapes = shapes;
        }

        void copyFrom(Sheet other) {
            colour = other.colour;
            scrapped = other.scrapped;
            for (int row = 0; row < ROWS; row++) {
                cutColumns[row] = other.cutColumns[row];
            }
        }

        boolean canCut(int letter, int way, int row, int column) {
            return column >= 0 && column < COLUMNS && (freeColumns(letter, way, row) >> column & 1) != 0;
        }

        /** The columns at which a letter can be cut in a way at a row, as a set. */
        private int freeColumns(int letter, int way, int row) {
            if (scrapped || !isOnSheet(way, row, 0)) {
                return 0;
            }
            int free = (1 << COLUMNS - widthOf(way) + 1) - 1;
            for (int i = 0; i < heightOf(way); i++) {
                int squares = shapes.columnsOf(letter, way, i);
                for (int j = 0; j < widthOf(way); j++) {
                    if ((squares >> j & 1) != 0) {
                        free &= ~(cutColumns[row + i] >> j);
                    }
                }
            }
            return free;
        }

        void cutOut(int letter, int way, int row, int column) {
            if (!isOnSheet(way, row, column)) {
                return;
            }
            for (int i = 0; i < heightOf(way); i++) {
                cutColumns[row + i] |= shapes.columnsOf(letter, way, i) << column;
            }
        }

        /** All rows and columns of a letter have to be on the sheet, whether it has squares there or not. */
        private static boolean isOnSheet(int way, int row, int column) {
            return row >= 0 && row <= ROWS - heightOf(way) && column >= 0 && column <= COLUMNS - widthOf(way);
        }

        /** The first fit as rowIn, columnIn and wayIn take it apart, or NONE. */
        int firstFit(int letter, int mirrored) {
            for (int row = 0; row < ROWS; row++) {
                int firstColumn = COLUMNS;
                int firstWay = NONE;
                for (int turn = 0; turn < TURNS; turn++) {
                    int way = mirrored * TURNS + turn;
                    int column = lowestIn(freeColumns(letter, way, row));
                    if (column < firstColumn) {
                        firstColumn = column;
                        firstWay = way;
                    }
                }
                if (firstWay != NONE) {
                    return (row * COLUMNS + firstColumn) * WAYS + firstWay;
                }
            }
            return NONE;
        }

        /** Cuts a letter, each time at its first fit, until there is none, and answers how often. */
        int cutUp(int letter, int mirrored) {
            int many = 0;
            while (many < ROWS * COLUMNS) {
                int found = firstFit(letter, mirrored);
                if (found == NONE) {
                    return many;
                }
                cutOut(letter, wayIn(found), rowIn(found), columnIn(found));
                many++;
            }
            return many;
        }

        int allFits(int letter) {
            int many = 0;
            for (int way = 0; way < WAYS; way++) {
                for (int row = 0; row < ROWS; row++) {
                    many += Integer.bitCount(freeColumns(letter, way, row));
                }
            }
            return many;
        }

        int lettersThatFit() {
            int set = 0;
            for (int letter = 0; letter < LETTERS; letter++) {
                if (firstFit(letter, 0) != NONE || firstFit(letter, 1) != NONE) {
                    set |= 1 << letter;
                }
            }
            return set;
        }

        int squaresLeft() {
            int squares = ROWS * COLUMNS;
            for (int row = 0; row < ROWS; row++) {
                squares -= Integer.bitCount(cutColumns[row]);
            }
            return squares;
        }
    }

    /** A cut letter: where it was cut, and where it is; its spot is NONE unless it stands in a pane. */
    private static final class Piece {
        private int letter;
        private int colour;
        private int way;
        private int sheet;
        private int corner;
        private int state;
        private int spot;

        void copyFrom(Piece other) {
            letter = other.letter;
            colour = other.colour;
            way = other.way;
            sheet = other.sheet;
            corner = other.corner;
            state = other.state;
            spot = other.spot;
        }

        void becomeLoose() {
            state = LOOSE;
            spot = NONE;
        }
    }

    /** All that undo and the slots bring back. Its methods answer as the public ones do. */
    private static final class Shop {
        private final Shapes shapes;
        private final Sheet[] sheets = new Sheet[SHEETS];
        private final Piece[] pieces = new Piece[PIECES];
        private final int[] spots = new int[PANES * PLACES];
        private int sheetCount;
        private int pieceCount;

        Shop(Shapes shapes) {
            this.shapes = shapes;
            for (int i = 0; i < SHEETS; i++) {
                sheets[i] = new Sheet(shapes);
            }
            for (int i = 0; i < PIECES; i++) {
                pieces[i] = new Piece();
            }
            for (int i = 0; i < PANES * PLACES; i++) {
                spots[i] = NONE;
            }
        }

        void copyFrom(Shop other) {
            sheetCount = other.sheetCount;
            pieceCount = other.pieceCount;
            for (int i = 0; i < SHEETS; i++) {
                sheets[i].copyFrom(other.sheets[i]);
            }
            for (int i = 0; i < PIECES; i++) {
                pieces[i].copyFrom(other.pieces[i]);
            }
            for (int i = 0; i < PANES * PLACES; i++) {
                spots[i] = other.spots[i];
            }
        }

        /** The sheet of a number, or null if there is no such sheet. */
        Sheet sheetAt(int sheet) {
            return sheet >= 0 && sheet < sheetCount && sheet < SHEETS ? sheets[sheet] : null;
        }

        /** The piece of a number, or null if there is no such piece. */
        Piece pieceAt(int piece) {
            return piece >= 0 && piece < pieceCount && piece < PIECES ? pieces[piece] : null;
        }

        int addSheet(int colour) {
            int number = sheetCount;
            if (number < 0 || number >= SHEETS) {
                return TOO_MANY;
            }
            // Every copy holds the sheets that are yet to come, too, so this one is whole as it is made.
            sheets[number].colour = colour;
            sheetCount++;
            return number;
        }

        int cutPiece(int sheet, int letter, int way, int row, int column) {
            Sheet stock = sheetAt(sheet);
            if (stock == null || !stock.canCut(letter, way, row, column)) {
                return NOT_POSSIBLE;
            }
            return addPiece(sheet, letter, way, row, column);
        }

        /** Cuts a piece at a place of which the caller knows that it can be cut there. */
        private int addPiece(int sheet, int letter, int way, int row, int column) {
            int number = pieceCount;
            if (number < 0 || number >= PIECES) {
                return TOO_MANY;
            }
            Sheet stock = sheetAt(sheet);
            if (stock == null) {
                return NOT_POSSIBLE;
            }
            stock.cutOut(letter, way, row, column);
            Piece piece = pieces[number];
            piece.letter = letter;
            piece.colour = stock.colour;
            piece.way = way;
            piece.sheet = sheet;
            piece.corner = row * COLUMNS + column;
            piece.becomeLoose();
            pieceCount++;
            return number;
        }

        int makePiece(int colour, int letter, int mirrored) {
            for (int sheet = 0; sheet < sheetCount; sheet++) {
                Sheet stock = sheetAt(sheet);
                if (stock == null || stock.colour != colour) {
                    continue;
                }
                int found = stock.firstFit(letter, mirrored);
                if (found != NONE) {
                    return addPiece(sheet, letter, wayIn(found), rowIn(found), columnIn(found));
                }
            }
            return NOT_POSSIBLE;
        }

        /** Writes the name of a pad without a fault; the shop is no more to be used if it fails. */
        int writeName(Pad pad, int pane, int place, int colour, int mirrored) {
            int cuts = 0;
            for (int i = 0; i < pad.length; i++) {
                int letter = pad.letterAt(mirrored == 1 ? pad.length - 1 - i : i);
                int piece = lowestLoose(letter, colour, mirrored);
                if (piece == NONE) {
                    piece = makePiece(colour, letter, mirrored);
                    cuts++;
                }
                if (putIntoPane(piece, pane, place + i) < 0) {
                    return NOT_POSSIBLE;
                }
            }
            return cuts;
        }

        private int lowestLoose(int letter, int colour, int mirrored) {
            for (int i = 0; i < pieceCount; i++) {
                Piece piece = pieceAt(i);
                if (piece != null && piece.state == LOOSE && piece.letter == letter
                        && piece.colour == colour && mirroringOf(piece.way) == mirrored) {
                    return i;
                }
            }
            return NONE;
        }

        int putIntoPane(int number, int pane, int place) {
            Piece piece = pieceAt(number);
            if (piece == null || piece.state != LOOSE || !isPane(pane) || !isPlace(place)) {
                return NOT_POSSIBLE;
            }
            int spot = pane * PLACES + place;
            if (spots[spot] != NONE) {
                return NOT_POSSIBLE;
            }
            spots[spot] = number;
            piece.state = IN_PANE;
            piece.spot = spot;
            return piecesIn(pane);
        }

        int clearPane(int pane) {
            if (!isPane(pane)) {
                return NO_SUCH;
            }
            int many = 0;
            for (int place = 0; place < PLACES; place++) {
                Piece piece = pieceAt(spots[pane * PLACES + place]);
                if (piece != null) {
                    piece.becomeLoose();
                    spots[pane * PLACES + place] = NONE;
                    many++;
                }
            }
            return many;
        }

        int wastePiece(int number) {
            Piece piece = pieceAt(number);
            if (piece == null || piece.state != LOOSE) {
                return NOT_POSSIBLE;
            }
            piece.state = WASTE;
            return shapes.squaresOf(piece.letter);
        }

        int scrapSheet(int number) {
            Sheet stock = sheetAt(number);
            if (stock == null || stock.scrapped) {
                return NOT_POSSIBLE;
            }
            stock.scrapped = true;
            return stock.squaresLeft();
        }

        private int piecesIn(int pane) {
            int many = 0;
            for (int i = 0; i < pieceCount; i++) {
                Piece piece = pieceAt(i);
                if (piece != null && piece.state == IN_PANE && piece.spot / PLACES == pane) {
                    many++;
                }
            }
            return many;
        }

        int piecesFrom(int sheet) {
            int many = 0;
            for (int i = 0; i < pieceCount; i++) {
                Piece piece = pieceAt(i);
                if (piece != null && piece.sheet == sheet) {
                    many++;
                }
            }
            return many;
        }

        int piecesThatAre(int state) {
            int many = 0;
            for (int i = 0; i < pieceCount; i++) {
                Piece piece = pieceAt(i);
                if (piece != null && piece.state == state) {
                    many++;
                }
            }
            return many;
        }

        int squaresOfPieces(int state) {
            int squares = 0;
            for (int i = 0; i < pieceCount; i++) {
                Piece piece = pieceAt(i);
                if (piece != null && piece.state == state) {
                    squares += shapes.squaresOf(piece.letter);
                }
            }
            return squares;
        }

        /** The squares that are not cut of the sheets that are scrapped, or of those that are not. */
        int squaresOfSheets(boolean scrapped) {
            int squares = 0;
            for (int i = 0; i < sheetCount; i++) {
                Sheet stock = sheetAt(i);
                if (stock != null && stock.scrapped == scrapped) {
                    squares += stock.squaresLeft();
                }
            }
            return squares;
        }
    }

    /** The latest states, as a ring that drops the oldest one when one more comes. */
    private static final class History {
        private final Shapes shapes;
        private final Shop[] states = new Shop[HISTORY];
        private int oldest;
        private int length;

        History(Shapes shapes) {
            this.shapes = shapes;
        }

        void record(Shop shop) {
            int index = Math.floorMod(oldest + length, HISTORY);
            Shop state = states[index];
            if (state == null) {
                state = new Shop(shapes);
                states[index] = state;
            }
            state.copyFrom(shop);
            if (length < HISTORY) {
                length++;
            } else {
                oldest = Math.floorMod(oldest + 1, HISTORY);
            }
        }

        /** Puts the latest state back into the shop; says false if there is none. */
        boolean takeBack(Shop shop) {
            if (length <= 0) {
                return false;
            }
            Shop state = states[Math.floorMod(oldest + length - 1, HISTORY)];
            if (state == null) {
                return false;
            }
            shop.copyFrom(state);
            length--;
            return true;
        }
    }

    /** The text from which a name is read. */
    private static final class Pad {
        private final char[] signs = new char[PAD_LENGTH];
        private int length;

        void empty() {
            length = 0;
        }

        int append(long characters) {
            int many = signsIn(characters);
            if (many <= 0) {
                return BAD_VALUE;
            }
            if (length > PAD_LENGTH - many) {
                return TOO_MANY;
            }
            for (int i = 0; i < many; i++) {
                signs[length] = (char) codeIn(characters, many - 1 - i);
                length++;
            }
            return length;
        }

        /** How many characters the number holds, or BAD_VALUE if it is none that tells characters. */
        private static int signsIn(long characters) {
            int many = 0;
            while (many < CHARACTERS && codeIn(characters, many) != 0) {
                int code = codeIn(characters, many);
                if (code < FIRST_CODE || code > LAST_CODE) {
                    return BAD_VALUE;
                }
                many++;
            }
            // A shift by all 64 bits would leave the number as it is, so eight characters are told apart.
            boolean more = many < CHARACTERS && characters >>> 8 * many != 0;
            return more ? BAD_VALUE : many;
        }

        /** The 8 bits at an index that counts from the lowest ones, which are the last character. */
        private static int codeIn(long characters, int index) {
            return (int) (characters >>> 8 * index & 255);
        }

        int letterAt(int index) {
            if (index < 0 || index >= length || index >= PAD_LENGTH) {
                return NONE;
            }
            int letter = LETTER_SIGNS.indexOf(signs[index]);
            return letter < 0 ? NONE : letter;
        }

        int faultIndex() {
            for (int i = 0; i < length; i++) {
                if (i >= NAME_LENGTH || letterAt(i) == NONE) {
                    return i;
                }
            }
            return length == 0 ? 0 : NONE;
        }
    }
}
