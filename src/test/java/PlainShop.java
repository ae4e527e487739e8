import java.util.ArrayList;
import java.util.Arrays;
import java.util.List;

/**
 * The document once more, written for the tests in another way than the class: letters are pictures,
 * sheets are squares one by one, and a state is kept by copying it. Slow, but easy to compare with the words.
 */
final class PlainShop {
    static final int NO_SUCH = -1, BAD_VALUE = -2, BAD_TEXT = -3, TOO_MANY = -4, NOT_POSSIBLE = -5, NONE = -6;

    private static final String SIGNS = "ilotuehs";
    private static final String[] PICTURES = {
        ".#./.#./.#./.#./.#.", "#../#../#../#../###", "###/#.#/#.#/#.#/###", "###/.#./.#./.#./.#.",
        "#.#/#.#/#.#/#.#/###", "###/#../###/#../###", "#.#/#.#/###/#.#/#.#", "###/#../###/..#/###",
    };

    private static final boolean[][][][] ALL_PICTURES = allPictures();

    private State now = new State();
    private final List<State> history = new ArrayList<>();
    private final State[] slots = new State[2];
    private String pad = "";

    private static final class PlainSheet {
        int colour;
        boolean scrapped;
        boolean[][] cut = new boolean[9][14];

        PlainSheet copy() {
            PlainSheet copy = new PlainSheet();
            copy.colour = colour;
            copy.scrapped = scrapped;
            for (int row = 0; row < 9; row++) {
                copy.cut[row] = cut[row].clone();
            }
            return copy;
        }

        boolean canCut(boolean[][] picture, int row, int column) {
            if (scrapped) {
                return false;
            }
            for (int i = 0; i < picture.length; i++) {
                for (int j = 0; j < picture[i].length; j++) {
                    long r = (long) row + i;
                    long c = (long) column + j;
                    if (r < 0 || r > 8 || c < 0 || c > 13 || picture[i][j] && cut[(int) r][(int) c]) {
                        return false;
                    }
                }
            }
            return true;
        }

        void cutOut(boolean[][] picture, int row, int column) {
            for (int i = 0; i < picture.length; i++) {
                for (int j = 0; j < picture[i].length; j++) {
                    cut[row + i][column + j] |= picture[i][j];
                }
            }
        }

        /** Row, column and way of the first fit, or null. */
        int[] firstFit(int letter, int mirrored) {
            for (int row = 0; row < 9; row++) {
                for (int column = 0; column < 14; column++) {
                    for (int way = 4 * mirrored; way < 4 * mirrored + 4; way++) {
                        if (canCut(picture(letter, way), row, column)) {
                            return new int[] {row, column, way};
                        }
                    }
                }
            }
            return null;
        }

        int left() {
            int left = 0;
            for (boolean[] row : cut) {
                for (boolean square : row) {
                    left += square ? 0 : 1;
                }
            }
            return left;
        }
    }

    /** A piece as its eight numbers of the promise 10. */
    private static final class State {
        List<PlainSheet> sheets = new ArrayList<>();
        List<int[]> pieces = new ArrayList<>();
        int[][] panes = new int[3][12];

        State() {
            for (int[] pane : panes) {
                Arrays.fill(pane, NONE);
            }
        }

        State copy() {
            State copy = new State();
            for (PlainSheet sheet : sheets) {
                copy.sheets.add(sheet.copy());
            }
            for (int[] piece : pieces) {
                copy.pieces.add(piece.clone());
            }
            for (int pane = 0; pane < 3; pane++) {
                copy.panes[pane] = panes[pane].clone();
            }
            return copy;
        }

        int cut(int sheet, int letter, int way, int row, int column) {
            PlainSheet stock = sheets.get(sheet);
            if (!stock.canCut(picture(letter, way), row, column)) {
                return NOT_POSSIBLE;
            }
            if (pieces.size() == 48) {
                return TOO_MANY;
            }
            stock.cutOut(picture(letter, way), row, column);
            pieces.add(new int[] {letter, stock.colour, way / 4, 0, NONE, sheet, 14 * row + column, way});
            return pieces.size() - 1;
        }

        int make(int colour, int letter, int mirrored) {
            for (int sheet = 0; sheet < sheets.size(); sheet++) {
                int[] first = sheets.get(sheet).firstFit(letter, mirrored);
                if (sheets.get(sheet).colour == colour && first != null) {
                    return cut(sheet, letter, first[2], first[0], first[1]);
                }
            }
            return NOT_POSSIBLE;
        }

        int write(String name, int pane, int place, int colour, int mirrored) {
            String order = mirrored == 1 ? new StringBuilder(name).reverse().toString() : name;
            int had = pieces.size();
            for (int i = 0; i < order.length(); i++) {
                if (place + i > 11 || panes[pane][place + i] != NONE) {
                    return NOT_POSSIBLE;
                }
                int piece = loose(SIGNS.indexOf(order.charAt(i)), colour, mirrored);
                piece = piece < 0 ? make(colour, SIGNS.indexOf(order.charAt(i)), mirrored) : piece;
                if (piece < 0) {
                    return NOT_POSSIBLE;
                }
                put(piece, pane, place + i);
            }
            return pieces.size() - had;
        }

        int loose(int letter, int colour, int mirrored) {
            for (int i = 0; i < pieces.size(); i++) {
                int[] p = pieces.get(i);
                if (p[0] == letter && p[1] == colour && p[2] == mirrored && p[3] == 0) {
                    return i;
                }
            }
            return NONE;
        }

        void put(int piece, int pane, int place) {
            panes[pane][place] = piece;
            pieces.get(piece)[3] = 1;
            pieces.get(piece)[4] = 12 * pane + place;
        }

        int many(int how) {
            return (int) pieces.stream().filter(p -> p[3] == how).count();
        }

        int squaresOfPieces(int how) {
            return pieces.stream().filter(p -> p[3] == how).mapToInt(p -> squares(p[0])).sum();
        }

        int squaresOfSheets(boolean scrapped) {
            return sheets.stream().filter(s -> s.scrapped == scrapped).mapToInt(PlainSheet::left).sum();
        }
    }

    private static boolean[][] picture(int letter, int way) {
        return ALL_PICTURES[letter][way];
    }

    private static boolean[][][][] allPictures() {
        boolean[][][][] all = new boolean[8][8][][];
        for (int letter = 0; letter < 8; letter++) {
            for (int way = 0; way < 8; way++) {
                all[letter][way] = drawn(letter, way);
            }
        }
        return all;
    }

    /** A letter as squares: the picture, mirrored if told so, then turned as often as told. */
    private static boolean[][] drawn(int letter, int way) {
        String[] rows = PICTURES[letter].split("/");
        boolean[][] squares = new boolean[5][3];
        for (int row = 0; row < 5; row++) {
            for (int column = 0; column < 3; column++) {
                squares[row][way >= 4 ? 2 - column : column] = rows[row].charAt(column) == '#';
            }
        }
        for (int turn = 0; turn < way % 4; turn++) {
            squares = turnedClockwise(squares);
        }
        return squares;
    }

    private static boolean[][] turnedClockwise(boolean[][] squares) {
        boolean[][] turned = new boolean[squares[0].length][squares.length];
        for (int row = 0; row < squares.length; row++) {
            for (int column = 0; column < squares[row].length; column++) {
                turned[column][squares.length - 1 - row] = squares[row][column];
            }
        }
        return turned;
    }

    private static int squares(int letter) {
        return (int) PICTURES[letter].chars().filter(c -> c == '#').count();
    }

    private static int bits(boolean[] squares) {
        int bits = 0;
        for (int i = 0; i < squares.length; i++) {
            bits |= squares[i] ? 1 << i : 0;
        }
        return bits;
    }

    private static boolean in(int number, int low, int high) {
        return number >= low && number <= high;
    }

    private boolean hasSheet(int sheet) {
        return in(sheet, 0, now.sheets.size() - 1);
    }

    private boolean hasPiece(int piece) {
        return in(piece, 0, now.pieces.size() - 1);
    }

    private int change(State next, int answer) {
        if (answer < 0) {
            return answer;
        }
        history.add(now);
        if (history.size() > 6) {
            history.remove(0);
        }
        now = next;
        return answer;
    }

    int sheet(int colour) {
        if (!in(colour, 1, 4)) {
            return BAD_VALUE;
        }
        if (now.sheets.size() == 6) {
            return TOO_MANY;
        }
        State next = now.copy();
        PlainSheet sheet = new PlainSheet();
        sheet.colour = colour;
        next.sheets.add(sheet);
        return change(next, next.sheets.size() - 1);
    }

    int cut(int sheet, int letter, int way, int row, int column) {
        if (!hasSheet(sheet) || !in(letter, 0, 7)) {
            return NO_SUCH;
        }
        if (!in(way, 0, 7)) {
            return BAD_VALUE;
        }
        State next = now.copy();
        return change(next, next.cut(sheet, letter, way, row, column));
    }

    int make(int colour, int letter, int mirrored) {
        if (!in(letter, 0, 7)) {
            return NO_SUCH;
        }
        if (!in(colour, 1, 4) || !in(mirrored, 0, 1)) {
            return BAD_VALUE;
        }
        State next = now.copy();
        return change(next, next.make(colour, letter, mirrored));
    }

    int write(int pane, int place, int colour, int mirrored) {
        if (!in(pane, 0, 2) || !in(place, 0, 11)) {
            return NO_SUCH;
        }
        if (fault() != NONE) {
            return BAD_TEXT;
        }
        if (!in(colour, 1, 4) || !in(mirrored, 0, 1)) {
            return BAD_VALUE;
        }
        State next = now.copy();
        int answer = change(next, next.write(pad, pane, place, colour, mirrored));
        pad = answer < 0 ? pad : "";
        return answer;
    }

    int place(int piece, int pane, int place) {
        if (!hasPiece(piece) || !in(pane, 0, 2) || !in(place, 0, 11)) {
            return NO_SUCH;
        }
        State next = now.copy();
        if (next.pieces.get(piece)[3] != 0 || next.panes[pane][place] != NONE) {
            return NOT_POSSIBLE;
        }
        next.put(piece, pane, place);
        return change(next, (int) Arrays.stream(next.panes[pane]).filter(p -> p != NONE).count());
    }

    int clear(int pane) {
        if (!in(pane, 0, 2)) {
            return NO_SUCH;
        }
        State next = now.copy();
        int many = 0;
        for (int[] piece : next.pieces) {
            if (piece[3] == 1 && piece[4] / 12 == pane) {
                piece[3] = 0;
                piece[4] = NONE;
                many++;
            }
        }
        Arrays.fill(next.panes[pane], NONE);
        return change(next, many);
    }

    int throwAway(int piece) {
        if (!hasPiece(piece)) {
            return NO_SUCH;
        }
        if (now.pieces.get(piece)[3] != 0) {
            return NOT_POSSIBLE;
        }
        State next = now.copy();
        next.pieces.get(piece)[3] = 2;
        return change(next, squares(next.pieces.get(piece)[0]));
    }

    int scrap(int sheet) {
        if (!hasSheet(sheet)) {
            return NO_SUCH;
        }
        if (now.sheets.get(sheet).scrapped) {
            return NOT_POSSIBLE;
        }
        State next = now.copy();
        next.sheets.get(sheet).scrapped = true;
        return change(next, next.sheets.get(sheet).left());
    }

    int of(int piece, int what) {
        return !hasPiece(piece) ? NO_SUCH : !in(what, 0, 7) ? BAD_VALUE : now.pieces.get(piece)[what];
    }

    int ofSheet(int sheet, int what) {
        if (!hasSheet(sheet)) {
            return NO_SUCH;
        }
        PlainSheet one = now.sheets.get(sheet);
        int from = (int) now.pieces.stream().filter(p -> p[5] == sheet).count();
        int set = 0;
        for (int letter = 0; letter < 8; letter++) {
            set |= one.firstFit(letter, 0) != null || one.firstFit(letter, 1) != null ? 1 << letter : 0;
        }
        int[] all = {one.colour, one.left(), from, one.scrapped ? 1 : 0, set};
        return in(what, 0, 4) ? all[what] : BAD_VALUE;
    }

    int row(int sheet, int row) {
        return !hasSheet(sheet) || !in(row, 0, 8) ? NO_SUCH : bits(now.sheets.get(sheet).cut[row]);
    }

    int pane(int pane, int place) {
        return !in(pane, 0, 2) || !in(place, 0, 11) ? NO_SUCH : now.panes[pane][place];
    }

    int shape(int letter, int way, int row) {
        if (!in(letter, 0, 7)) {
            return NO_SUCH;
        }
        if (!in(way, 0, 7) || !in(row, 0, 4)) {
            return BAD_VALUE;
        }
        boolean[][] picture = picture(letter, way);
        return row < picture.length ? bits(picture[row]) : 0;
    }

    int count(int what) {
        int[] all = {now.sheets.size(), now.pieces.size(), now.many(0), now.many(1), now.many(2),
            now.squaresOfPieces(2) + now.squaresOfSheets(true), now.squaresOfSheets(false),
            now.squaresOfPieces(0) + now.squaresOfPieces(1), pad.length(), history.size()};
        return in(what, 0, 9) ? all[what] : BAD_VALUE;
    }

    int fit(int sheet, int letter, int mirrored, int what) {
        if (!hasSheet(sheet) || !in(letter, 0, 7)) {
            return NO_SUCH;
        }
        if (!in(mirrored, 0, 1) || !in(what, 0, 2)) {
            return BAD_VALUE;
        }
        int[] first = now.sheets.get(sheet).firstFit(letter, mirrored);
        return first == null ? NONE : what == 0 ? first[2] : first[what - 1];
    }

    int manyOf(int sheet, int letter, int mirrored) {
        if (!hasSheet(sheet) || !in(letter, 0, 7)) {
            return NO_SUCH;
        }
        if (!in(mirrored, 0, 1)) {
            return BAD_VALUE;
        }
        PlainSheet trial = now.sheets.get(sheet).copy();
        int many = 0;
        for (int[] f = trial.firstFit(letter, mirrored); f != null; f = trial.firstFit(letter, mirrored)) {
            trial.cutOut(picture(letter, f[2]), f[0], f[1]);
            many++;
        }
        return many;
    }

    int fits(int sheet, int letter) {
        if (!hasSheet(sheet) || !in(letter, 0, 7)) {
            return NO_SUCH;
        }
        int many = 0;
        for (int way = 0; way < 8; way++) {
            for (int place = 0; place < 9 * 14; place++) {
                many += now.sheets.get(sheet).canCut(picture(letter, way), place / 14, place % 14) ? 1 : 0;
            }
        }
        return many;
    }

    int colours(int pane, int place, int mirrored) {
        if (!in(pane, 0, 2) || !in(place, 0, 11)) {
            return NO_SUCH;
        }
        if (fault() != NONE) {
            return BAD_TEXT;
        }
        if (!in(mirrored, 0, 1)) {
            return BAD_VALUE;
        }
        int set = 0;
        for (int colour = 1; colour <= 4; colour++) {
            set |= now.copy().write(pad, pane, place, colour, mirrored) >= 0 ? 1 << colour : 0;
        }
        return set;
    }

    int put(long characters) {
        StringBuilder text = new StringBuilder();
        boolean ended = false;
        for (int i = 0; i < 8; i++) {
            int code = (int) (characters >> 8 * i) & 0xff;
            if (code == 0) {
                ended = true;
            } else if (ended || code < 33 || code > 126) {
                return BAD_VALUE;
            } else {
                text.insert(0, (char) code);
            }
        }
        if (text.length() == 0) {
            return BAD_VALUE;
        }
        if (pad.length() + text.length() > 80) {
            return TOO_MANY;
        }
        pad += text;
        return pad.length();
    }

    int wipe() {
        int length = pad.length();
        pad = "";
        return length;
    }

    int fault() {
        for (int i = 0; i < pad.length(); i++) {
            if (i == 12 || SIGNS.indexOf(pad.charAt(i)) < 0) {
                return i;
            }
        }
        return pad.isEmpty() ? 0 : NONE;
    }

    int undo() {
        if (history.isEmpty()) {
            return NOT_POSSIBLE;
        }
        now = history.remove(history.size() - 1);
        return history.size();
    }

    int save(int slot) {
        if (!in(slot, 0, 1)) {
            return BAD_VALUE;
        }
        slots[slot] = now.copy();
        return now.pieces.size();
    }

    int restore(int slot) {
        if (!in(slot, 0, 1)) {
            return BAD_VALUE;
        }
        return slots[slot] == null ? NOT_POSSIBLE : change(slots[slot].copy(), slots[slot].pieces.size());
    }
}
