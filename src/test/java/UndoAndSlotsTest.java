/** The promises 23 to 25: undo, save and restore. */
public final class UndoAndSlotsTest {
    private static final int NO_SUCH = -1, BAD_VALUE = -2, NOT_POSSIBLE = -5, NONE = -6;
    private static final int I = 0, L = 1, O = 2;
    private static final int[] FAR = {-1, 2, Integer.MIN_VALUE, Integer.MAX_VALUE};

    public static void main(String[] args) {
        Due due = new Due("UndoAndSlotsTest");
        due.part("23 undo", UndoAndSlotsTest::undo);
        due.part("23 undo, each change", UndoAndSlotsTest::undoEachChange);
        due.part("23 undo, the oldest is dropped", UndoAndSlotsTest::oldestIsDropped);
        due.part("23 undo, what it leaves", UndoAndSlotsTest::undoLeavesPadAndSlots);
        due.part("24 save", UndoAndSlotsTest::save);
        due.part("25 restore", UndoAndSlotsTest::restore);
        due.part("25 restore, what it leaves", UndoAndSlotsTest::restoreLeavesPadAndHistory);
        due.end();
    }

    private static void undo(Due due) {
        WindowLetters x = new WindowLetters();
        due.is("undo() of a new object", x.undo(), NOT_POSSIBLE);
        x.sheet(1);
        x.make(1, O, 0);
        due.is("undo()", x.undo(), 1);
        due.is("the piece is gone", x.of(0, 0), NO_SUCH);
        due.is("no square is cut", x.ofSheet(0, 1), 126);
        due.is("undo()", x.undo(), 0);
        due.is("the sheet is gone", x.ofSheet(0, 0), NO_SUCH);
        due.is("undo()", x.undo(), NOT_POSSIBLE);
        due.is("an error records nothing", x.sheet(0), BAD_VALUE);
        due.is("undo()", x.undo(), NOT_POSSIBLE);
    }

    private static void undoEachChange(Due due) {
        WindowLetters x = Due.shop(1);
        x.cut(0, L, 0, 0, 0);
        x.undo();
        due.is("cut", x.row(0, 4), 0);
        x.make(1, L, 0);
        x.make(1, L, 0);
        x.place(0, 1, 3);
        x.undo();
        due.is("place", x.pane(1, 3), NONE);
        due.is("place", x.of(0, 3), 0);
        x.place(0, 1, 3);
        x.clear(1);
        x.undo();
        due.is("clear", x.pane(1, 3), 0);
        due.is("clear", x.of(0, 4), 15);
        x.throwAway(1);
        x.undo();
        due.is("throwAway", x.of(1, 3), 0);
        due.is("throwAway", x.count(5), 0);
        x.scrap(0);
        x.undo();
        due.is("scrap", x.ofSheet(0, 3), 0);
        Due.pad(x, "lo");
        x.write(1, 4, 1, 0);
        x.undo();
        due.is("write", x.pane(1, 4), NONE);
        due.is("write", x.of(1, 3), 0);
        due.is("write", x.count(1), 2);
    }

    private static void oldestIsDropped(Due due) {
        WindowLetters x = Due.shop(1);
        for (int i = 0; i < 9; i++) {
            x.make(1, I, 0);
            due.is("count(9)", x.count(9), Math.min(6, i + 2));
        }
        for (int left = 5; left >= 3; left--) {
            due.is("undo()", x.undo(), left);
            due.is("pieces", x.count(1), left + 3);
        }
        x.clear(0);
        due.is("a change after undo", x.count(9), 4);
        for (int left = 3; left >= 0; left--) {
            due.is("undo()", x.undo(), left);
        }
        due.is("pieces", x.count(1), 3);
        due.is("undo()", x.undo(), NOT_POSSIBLE);
        due.is("pieces", x.count(1), 3);
    }

    private static void undoLeavesPadAndSlots(Due due) {
        WindowLetters x = Due.shop(1);
        x.put(Due.number("oil"));
        x.make(1, I, 0);
        x.save(0);
        due.is("undo()", x.undo(), 1);
        due.is("the pad is as it was", x.count(8), 3);
        due.is("the slot is as it was", x.restore(0), 1);
        due.is("the piece is back", x.of(0, 0), I);
        due.is("undo() of restore", x.undo(), 1);
        due.is("pieces", x.count(1), 0);
    }

    private static void save(Due due) {
        WindowLetters x = Due.shop(1);
        for (int far : FAR) {
            due.is("save(" + far + ")", x.save(far), BAD_VALUE);
        }
        due.is("save(0)", x.save(0), 0);
        due.is("save is no change", x.count(9), 1);
        x.make(1, I, 0);
        x.make(1, L, 0);
        due.is("save(1)", x.save(1), 2);
        x.make(1, O, 0);
        due.is("save(0) over the old one", x.save(0), 3);
        x.undo();
        x.undo();
        x.undo();
        due.is("restore(0)", x.restore(0), 3);
        due.is("restore(1)", x.restore(1), 2);
    }

    private static void restore(Due due) {
        WindowLetters x = Due.shop(1, 2);
        for (int far : FAR) {
            due.is("restore(" + far + ")", x.restore(far), BAD_VALUE);
        }
        due.is("restore(0) of nothing", x.restore(0), NOT_POSSIBLE);
        x.save(1);
        due.is("the other slot", x.restore(0), NOT_POSSIBLE);
        due.is("nothing is recorded", x.count(9), 2);
        x.make(1, I, 0);
        x.place(0, 0, 0);
        x.scrap(1);
        due.is("restore(1)", x.restore(1), 0);
        due.is("it is recorded", x.count(9), 6);
        due.is("no sheet is scrapped", x.ofSheet(1, 3), 0);
        due.is("the pane is empty", x.pane(0, 0), NONE);
        due.is("no square is cut", x.count(6), 252);
        x.make(2, O, 0);
        due.is("the slot keeps what it has", x.restore(1), 0);
        due.is("undo()", x.undo(), 5);
        due.is("the piece is back", x.of(0, 0), O);
        x.restore(1);
        due.is("nothing is different, but recorded", x.restore(1), 0);
        due.is("undo()", x.undo(), 5);
        due.is("pieces", x.count(1), 0);
        due.is("undo()", x.undo(), 4);
        due.is("pieces", x.count(1), 1);
    }

    private static void restoreLeavesPadAndHistory(Due due) {
        WindowLetters x = Due.shop(1);
        x.put(Due.number("oil"));
        x.save(0);
        x.wipe();
        x.put(Due.number("lo"));
        x.make(1, I, 0);
        x.restore(0);
        due.is("the pad", x.count(8), 2);
        due.is("the history", x.count(9), 3);
        due.is("undo()", x.undo(), 2);
        due.is("pieces", x.count(1), 1);
        due.is("undo()", x.undo(), 1);
        due.is("undo()", x.undo(), 0);
        due.is("sheets", x.count(0), 0);
    }
}
