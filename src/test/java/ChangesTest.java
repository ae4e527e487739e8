/** The promises 1 to 9: a new object, and the changes. */
public final class ChangesTest {
    private static final int NO_SUCH = -1, BAD_VALUE = -2, TOO_MANY = -4, NOT_POSSIBLE = -5, NONE = -6;
    private static final int I = 0, L = 1, O = 2, T = 3, U = 4, E = 5, H = 6, S = 7;

    public static void main(String[] args) {
        Due due = new Due("ChangesTest");
        due.part("1 a new object", ChangesTest::newObject);
        due.part("2 sheet", ChangesTest::sheet);
        due.part("3 cut", ChangesTest::cut);
        due.part("4 make", ChangesTest::make);
        due.part("5 write", ChangesTest::write);
        due.part("5 write, mirrored", ChangesTest::writeMirrored);
        due.part("5 write, loose pieces", ChangesTest::writeLoosePieces);
        due.part("5 write, not done", ChangesTest::writeNotDone);
        due.part("6 place", ChangesTest::place);
        due.part("7 clear", ChangesTest::clear);
        due.part("8 throwAway", ChangesTest::throwAway);
        due.part("9 scrap", ChangesTest::scrap);
        due.end();
    }

    private static void newObject(Due due) {
        WindowLetters x = new WindowLetters();
        for (int what = 0; what <= 9; what++) {
            due.is("count(" + what + ")", x.count(what), 0);
        }
        for (int pane = 0; pane < 3; pane++) {
            for (int place = 0; place < 12; place++) {
                due.is("pane(" + pane + ", " + place + ")", x.pane(pane, place), NONE);
            }
        }
        due.is("ofSheet(0, 0)", x.ofSheet(0, 0), NO_SUCH);
        due.is("of(0, 0)", x.of(0, 0), NO_SUCH);
        due.is("fault()", x.fault(), 0);
        due.is("undo()", x.undo(), NOT_POSSIBLE);
        due.is("restore(0)", x.restore(0), NOT_POSSIBLE);
        due.is("restore(1)", x.restore(1), NOT_POSSIBLE);
        new WindowLetters().sheet(1);
        due.is("count(0) after another object's sheet", x.count(0), 0);
    }

    private static void sheet(Due due) {
        WindowLetters x = new WindowLetters();
        due.is("sheet(0)", x.sheet(0), BAD_VALUE);
        due.is("sheet(5)", x.sheet(5), BAD_VALUE);
        due.is("count(9) after errors", x.count(9), 0);
        int[] colours = {1, 4, 2, 3, 1, 4};
        for (int i = 0; i < 6; i++) {
            due.is("sheet " + i, x.sheet(colours[i]), i);
            due.is("its colour", x.ofSheet(i, 0), colours[i]);
            due.is("count(9)", x.count(9), i + 1);
        }
        due.is("the seventh", x.sheet(1), TOO_MANY);
        due.is("the seventh of no colour", x.sheet(5), BAD_VALUE);
        due.is("count(0)", x.count(0), 6);
        due.is("undo()", x.undo(), 5);
        due.is("the sixth again", x.sheet(2), 5);
        due.is("its colour", x.ofSheet(5, 0), 2);
    }

    private static void cut(Due due) {
        WindowLetters x = Due.shop(3, 4);
        due.is("cut(1, E, 0, 2, 3)", x.cut(1, E, 0, 2, 3), 0);
        int[] rows = {0, 0, 7 << 3, 1 << 3, 7 << 3, 1 << 3, 7 << 3, 0, 0};
        for (int row = 0; row < 9; row++) {
            due.is("row(1, " + row + ")", x.row(1, row), rows[row]);
            due.is("row(0, " + row + ")", x.row(0, row), 0);
        }
        due.is("into the gaps of the E: cut(1, S, 0, 2, 4)", x.cut(1, S, 0, 2, 4), NOT_POSSIBLE);
        due.is("into its gap: cut(1, I, 1, 2, 4)", x.cut(1, I, 1, 2, 4), 1);
        due.is("row(1, 3)", x.row(1, 3), 1 << 3 | 31 << 4);
        due.is("the same again", x.cut(1, I, 1, 2, 4), NOT_POSSIBLE);
        due.is("mirrored and turned: cut(0, L, 7, 0, 0)", x.cut(0, L, 7, 0, 0), 2);
        due.is("row(0, 0)", x.row(0, 0), 31);
        due.is("row(0, 1)", x.row(0, 1), 16);
        due.is("row(0, 2)", x.row(0, 2), 16);
        int[] of = {L, 3, 1, 0, NONE, 0, 0, 7};
        for (int what = 0; what < 8; what++) {
            due.is("of(2, " + what + ")", x.of(2, what), of[what]);
        }
        due.is("count(9)", x.count(9), 5);
    }

    private static void make(Due due) {
        WindowLetters x = Due.shop(2, 1, 1);
        due.is("make(1, L, 0)", x.make(1, L, 0), 0);
        due.is("its sheet", x.of(0, 5), 1);
        due.is("its corner", x.of(0, 6), 0);
        due.is("its way", x.of(0, 7), 0);
        due.is("make(1, L, 0) again", x.make(1, L, 0), 1);
        due.is("its corner", x.of(1, 6), 1);
        due.is("its way", x.of(1, 7), 1);
        due.is("make(2, L, 1)", x.make(2, L, 1), 2);
        due.is("its sheet", x.of(2, 5), 0);
        due.is("its way", x.of(2, 7), 4);
        due.is("its colour", x.of(2, 1), 2);
        due.is("it is mirrored", x.of(2, 2), 1);
        due.is("it is loose", x.of(2, 3), 0);
        due.is("count(9)", x.count(9), 6);
        for (int i = 0; i < 30 && x.of(x.count(1) - 1, 5) != 2; i++) {
            x.make(1, O, 0);
        }
        due.is("the next sheet when the first has no fit", x.of(x.count(1) - 1, 6), 0);
        due.is("a smaller letter on the first all the same", x.of(x.make(1, I, 0), 5), 1);
        x.scrap(1);
        due.is("not from a scrapped one", x.of(x.make(1, I, 0), 5), 2);
    }

    private static void write(Due due) {
        WindowLetters x = Due.shop(2, 1, 2);
        Due.pad(x, "hello");
        due.is("write(1, 7, 1, 0)", x.write(1, 7, 1, 0), 5);
        int[] letters = {H, E, L, L, O};
        for (int i = 0; i < 5; i++) {
            due.is("the piece in " + (7 + i), x.pane(1, 7 + i), i);
            due.is("its letter", x.of(i, 0), letters[i]);
            due.is("its colour", x.of(i, 1), 1);
            due.is("it is not mirrored", x.of(i, 2), 0);
            due.is("it is in a pane", x.of(i, 3), 1);
            due.is("its spot", x.of(i, 4), 19 + i);
            due.is("its sheet", x.of(i, 5), 1);
        }
        due.is("the place ahead", x.pane(1, 6), NONE);
        due.is("the pad is empty", x.count(8), 0);
        due.is("count(9)", x.count(9), 4);
        Due.pad(x, "ilotuehsiiii");
        due.is("a name of twelve", x.write(0, 0, 2, 0), 12);
        due.is("its last one", x.of(x.pane(0, 11), 0), I);
        due.is("undo()", x.undo(), 4);
        due.is("the pad stays empty", x.count(8), 0);
        due.is("the pane is empty again", x.pane(0, 0), NONE);
    }

    private static void writeMirrored(Due due) {
        WindowLetters x = Due.shop(1);
        x.make(1, S, 0);
        Due.pad(x, "sue");
        due.is("write(2, 0, 1, 1)", x.write(2, 0, 1, 1), 3);
        int[] letters = {E, U, S};
        for (int i = 0; i < 3; i++) {
            due.is("the piece in " + i, x.pane(2, i), i + 1);
            due.is("its letter", x.of(i + 1, 0), letters[i]);
            due.is("it is mirrored", x.of(i + 1, 2), 1);
        }
        due.is("the loose one that is not mirrored stays", x.of(0, 3), 0);
    }

    private static void writeLoosePieces(Due due) {
        WindowLetters x = Due.shop(1, 2);
        x.make(2, L, 0);
        x.make(1, L, 1);
        x.make(1, L, 0);
        x.make(1, L, 0);
        x.make(1, L, 0);
        x.throwAway(2);
        Due.pad(x, "lill");
        due.is("write(0, 0, 1, 0)", x.write(0, 0, 1, 0), 2);
        int[] pieces = {3, 5, 4, 6};
        for (int i = 0; i < 4; i++) {
            due.is("pane(0, " + i + ")", x.pane(0, i), pieces[i]);
        }
        due.is("the other colour stays", x.of(0, 3), 0);
        due.is("the mirrored one stays", x.of(1, 3), 0);
        Due.pad(x, "l");
        due.is("mirrored", x.write(0, 4, 1, 1), 0);
        due.is("takes the mirrored one", x.pane(0, 4), 1);
        WindowLetters full = Due.fullShop();
        Due.pad(full, "iii");
        due.is("without a cut with 48 pieces", full.write(0, 0, 1, 0), 0);
        due.is("the pad is empty all the same", full.count(8), 0);
        Due.pad(full, "il");
        due.is("not with a cut", full.write(1, 0, 1, 0), NOT_POSSIBLE);
        due.is("the I stays loose", full.of(3, 3), 0);
        WindowLetters near = Due.fullShop();
        near.undo();
        Due.pad(near, "il");
        due.is("up to 48 pieces", near.write(0, 0, 1, 0), 1);
    }

    private static void writeNotDone(Due due) {
        WindowLetters x = Due.shop(1);
        x.make(1, I, 0);
        x.place(0, 0, 5);
        Due.pad(x, "sou");
        for (int place = 3; place <= 5; place++) {
            due.is("onto a taken place from " + place, x.write(0, place, 1, 0), NOT_POSSIBLE);
        }
        due.is("beyond the last place", x.write(0, 10, 1, 0), NOT_POSSIBLE);
        due.is("beyond the last pane's last place", x.write(2, 11, 1, 0), NOT_POSSIBLE);
        due.is("without sheets of the colour", x.write(0, 6, 2, 0), NOT_POSSIBLE);
        due.is("nothing is cut", x.count(1), 1);
        due.is("no square is cut", x.ofSheet(0, 1), 121);
        due.is("nothing is recorded", x.count(9), 3);
        due.is("the pad is kept", x.count(8), 3);
        due.is("up to the taken place", x.write(0, 2, 1, 0), 3);
        Due.pad(x, "hhhhhhhhhhhh");
        due.is("more than the sheet has", x.write(1, 0, 1, 0), NOT_POSSIBLE);
        due.is("nothing is cut for it", x.count(1), 4);
        Due.pad(x, "e");
        due.is("one at the last place", x.write(2, 11, 1, 0), 1);
    }

    private static void place(Due due) {
        WindowLetters x = Due.shop(1);
        for (int i = 0; i < 4; i++) {
            x.make(1, I, 0);
        }
        due.is("place(2, 1, 11)", x.place(2, 1, 11), 1);
        due.is("place(0, 1, 0)", x.place(0, 1, 0), 2);
        due.is("place(1, 2, 0)", x.place(1, 2, 0), 1);
        due.is("of(2, 4)", x.of(2, 4), 23);
        due.is("of(2, 3)", x.of(2, 3), 1);
        due.is("pane(1, 11)", x.pane(1, 11), 2);
        due.is("count(9)", x.count(9), 6);
        due.is("not loose", x.place(2, 0, 0), NOT_POSSIBLE);
        due.is("a taken place", x.place(3, 1, 0), NOT_POSSIBLE);
        x.throwAway(3);
        due.is("waste", x.place(3, 0, 0), NOT_POSSIBLE);
        due.is("no piece", x.place(4, 0, 0), NO_SUCH);
        due.is("no pane, not loose", x.place(3, 3, 0), NO_SUCH);
        due.is("no place, not loose", x.place(3, 0, 12), NO_SUCH);
        due.is("pane(0, 0)", x.pane(0, 0), NONE);
    }

    private static void clear(Due due) {
        WindowLetters x = Due.shop(1);
        Due.pad(x, "lilo");
        x.write(1, 8, 1, 0);
        Due.pad(x, "i");
        x.write(2, 0, 1, 0);
        due.is("clear(3)", x.clear(3), NO_SUCH);
        due.is("an empty pane", x.clear(0), 0);
        due.is("it is recorded all the same", x.count(9), 4);
        due.is("clear(1)", x.clear(1), 4);
        for (int piece = 0; piece < 4; piece++) {
            due.is("of(" + piece + ", 3)", x.of(piece, 3), 0);
            due.is("of(" + piece + ", 4)", x.of(piece, 4), NONE);
            due.is("pane(1, " + (8 + piece) + ")", x.pane(1, 8 + piece), NONE);
        }
        due.is("the other pane keeps its piece", x.of(4, 4), 24);
        due.is("count(9)", x.count(9), 5);
        due.is("clear(1) again", x.clear(1), 0);
        due.is("undo()", x.undo(), 5);
        due.is("undo()", x.undo(), 4);
        due.is("pane(1, 8)", x.pane(1, 8), 0);
        due.is("of(0, 4)", x.of(0, 4), 20);
        due.is("from the first place on", x.clear(2), 1);
        due.is("pane(2, 0)", x.pane(2, 0), NONE);
    }

    private static void throwAway(Due due) {
        WindowLetters x = Due.shop(1, 1, 1);
        int[] squares = {5, 7, 12, 7, 11, 11, 11, 11};
        int waste = 0;
        for (int letter = 0; letter < 8; letter++) {
            x.make(1, letter, letter % 2);
            waste += squares[letter];
            due.is("throwAway(" + letter + ")", x.throwAway(letter), squares[letter]);
            due.is("of(" + letter + ", 3)", x.of(letter, 3), 2);
            due.is("count(5)", x.count(5), waste);
        }
        due.is("thrown away already", x.throwAway(0), NOT_POSSIBLE);
        due.is("no piece", x.throwAway(8), NO_SUCH);
        x.make(1, I, 0);
        x.place(8, 0, 0);
        int changes = x.count(9);
        due.is("in a pane", x.throwAway(8), NOT_POSSIBLE);
        due.is("its sheet's squares stay cut", x.ofSheet(0, 2) + x.ofSheet(1, 2) + x.ofSheet(2, 2), 9);
        due.is("count(9)", x.count(9), changes);
    }

    private static void scrap(Due due) {
        WindowLetters x = Due.shop(1, 2);
        x.make(2, O, 0);
        x.make(2, T, 0);
        x.throwAway(1);
        due.is("scrap(2)", x.scrap(2), NO_SUCH);
        due.is("scrap(1)", x.scrap(1), 126 - 12 - 7);
        due.is("scrap(1) again", x.scrap(1), NOT_POSSIBLE);
        due.is("ofSheet(1, 3)", x.ofSheet(1, 3), 1);
        due.is("ofSheet(0, 3)", x.ofSheet(0, 3), 0);
        due.is("count(5)", x.count(5), 126 - 12);
        due.is("its loose piece stays loose", x.of(0, 3), 0);
        due.is("count(9)", x.count(9), 6);
        due.is("undo()", x.undo(), 5);
        due.is("not scrapped any more", x.scrap(1), 126 - 12 - 7);
        WindowLetters again = Due.shop(1);
        again.cut(0, I, 0, 0, 0);
        again.scrap(0);
        again.undo();
        again.undo();
        again.undo();
        due.is("a sheet in the place of a scrapped one", again.sheet(3), 0);
        due.is("is not scrapped", again.ofSheet(0, 3), 0);
        due.is("is not cut", again.ofSheet(0, 1), 126);
    }
}
