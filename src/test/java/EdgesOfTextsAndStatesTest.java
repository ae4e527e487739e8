import java.util.ArrayList;
import java.util.List;
import java.util.function.Supplier;
import java.util.function.ToIntFunction;

/** The sentences of the promises 20 to 25 that name a boundary: each part bears the sentence that it tests. */
public final class EdgesOfTextsAndStatesTest {
    private static final int NO_SUCH = -1, BAD_VALUE = -2, BAD_TEXT = -3, TOO_MANY = -4, NOT_POSSIBLE = -5, NONE = -6;
    private static final int I = 0, L = 1, O = 2, T = 3;

    public static void main(String[] args) {
        Due due = new Due("EdgesOfTextsAndStatesTest");
        due.part("20: its lowest 8 bits are the last character", EdgesOfTextsAndStatesTest::putOrder);
        due.part("20: 1 to 8 characters", EdgesOfTextsAndStatesTest::putLengths);
        due.part("20: returns the length of the pad then", EdgesOfTextsAndStatesTest::putReturnsLength);
        due.part("20: BAD_VALUE if there is no character", EdgesOfTextsAndStatesTest::putNoCharacter);
        due.part("20: BAD_VALUE if a code is not 33 to 126", EdgesOfTextsAndStatesTest::putCodes);
        due.part("20: BAD_VALUE if a bit above 8 bits that are 0 is not 0", EdgesOfTextsAndStatesTest::putBitsAbove);
        due.part("20: TOO_MANY if the pad would be longer than 80", EdgesOfTextsAndStatesTest::putTooMany);
        due.part("21: empties the pad, and returns the length that it had", EdgesOfTextsAndStatesTest::wipe);
        due.part("22: a name is 1 to 12 of the letters", EdgesOfTextsAndStatesTest::nameLengths);
        due.part("22: the letters are i, l, o, t, u, e, h and s", EdgesOfTextsAndStatesTest::nameLetters);
        due.part("22: the first character that cannot stand at its place", EdgesOfTextsAndStatesTest::faultIsTheFirst);
        due.part("22: the thirteenth one, too", EdgesOfTextsAndStatesTest::faultOfThirteenth);
        due.part("22: if it is empty, it is 0; NONE if there is none", EdgesOfTextsAndStatesTest::faultOfEmpty);
        due.part("23: everything is as it was before it", EdgesOfTextsAndStatesTest::undoEachChange);
        due.part("23: except the pad", EdgesOfTextsAndStatesTest::undoLeavesPad);
        due.part("23: except the slots", EdgesOfTextsAndStatesTest::undoLeavesSlots);
        due.part("23: each change that returns no error records", EdgesOfTextsAndStatesTest::changesRecord);
        due.part("23: what is no change records nothing", EdgesOfTextsAndStatesTest::othersRecordNothing);
        due.part("23: also if nothing is different then", EdgesOfTextsAndStatesTest::recordedWithoutDifference);
        due.part("23: at most 6 states; the oldest one is dropped", EdgesOfTextsAndStatesTest::oldestIsDropped);
        due.part("23: the history round and round", EdgesOfTextsAndStatesTest::historyRoundAndRound);
        due.part("23: returns how many changes can be undone then", EdgesOfTextsAndStatesTest::undoReturns);
        due.part("23: NOT_POSSIBLE if there is none", EdgesOfTextsAndStatesTest::undoNotPossible);
        due.part("24: everything except the pad, the history and the slots", EdgesOfTextsAndStatesTest::saveWhat);
        due.part("24: overwrites what was saved there", EdgesOfTextsAndStatesTest::saveOverwrites);
        due.part("24: returns how many pieces there are so far", EdgesOfTextsAndStatesTest::saveReturns);
        due.part("24: BAD_VALUE if there is no such slot", EdgesOfTextsAndStatesTest::saveBadValue);
        due.part("25: restores what was saved last in a slot", EdgesOfTextsAndStatesTest::restoreLast);
        due.part("25: which keeps it", EdgesOfTextsAndStatesTest::slotKeepsIt);
        due.part("25: this is a change", EdgesOfTextsAndStatesTest::restoreIsAChange);
        due.part("25: returns how many pieces there are so far then", EdgesOfTextsAndStatesTest::restoreReturns);
        due.part("25: BAD_VALUE if there is no such slot", EdgesOfTextsAndStatesTest::restoreBadValue);
        due.part("25: NOT_POSSIBLE if nothing was saved in it", EdgesOfTextsAndStatesTest::restoreNotPossible);
        due.end();
    }

    private static WindowLetters withPad(WindowLetters x, String text) {
        Due.pad(x, text);
        return x;
    }

    // ---- 20 to 22

    /** The order shows in the name that is written. */
    private static void putOrder(Due due) {
        WindowLetters x = Due.shop(1, 1);
        x.put('i' << 16 | 'l' << 8 | 'o');
        x.put('t');
        x.put(Due.number("uehsilot"));
        due.is("write", x.write(0, 0, 1, 0), 12);
        for (int place = 0; place < 12; place++) {
            due.is("the letter in the place " + place, x.of(x.pane(0, place), 0), place % 8);
        }
    }

    private static void putLengths(Due due) {
        for (int length = 1; length <= 8; length++) {
            due.is(length + " lowest", new WindowLetters().put(Due.number("!!!!!!!!".substring(0, length))), length);
            due.is(length + " highest", new WindowLetters().put(Due.number("~~~~~~~~".substring(0, length))), length);
        }
    }

    private static void putReturnsLength(Due due) {
        WindowLetters x = new WindowLetters();
        due.is("the first three", x.put(Due.number("abc")), 3);
        due.is("eight more", x.put(Due.number("abcdefgh")), 11);
        due.is("the length", x.count(8), 11);
    }

    private static void putNoCharacter(Due due) {
        due.is("put(0)", new WindowLetters().put(0), BAD_VALUE);
        due.is("put(0) to a pad", withPad(new WindowLetters(), "i").put(0), BAD_VALUE);
        due.is("put(0) to a full pad", withPad(new WindowLetters(), "i".repeat(80)).put(0), BAD_VALUE);
    }

    /** Every code as the only character, the last one, the first one of two, and the first one of eight. */
    private static void putCodes(Due due) {
        for (int code = 1; code <= 255; code++) {
            boolean good = code >= 33 && code <= 126;
            due.is("put of the code " + code, new WindowLetters().put(code), good ? 1 : BAD_VALUE);
            due.is("behind an i", new WindowLetters().put('i' << 8 | code), good ? 2 : BAD_VALUE);
            due.is("ahead of an i", new WindowLetters().put(code << 8 | 'i'), good ? 2 : BAD_VALUE);
            long eight = (long) code << 56 | Due.number("iiiiiii");
            due.is("ahead of seven i's", new WindowLetters().put(eight), good ? 8 : BAD_VALUE);
        }
        due.is("put(-1)", new WindowLetters().put(-1), BAD_VALUE);
        due.is("put of the lowest number", new WindowLetters().put(Long.MIN_VALUE), BAD_VALUE);
        due.is("put of the highest number", new WindowLetters().put(Long.MAX_VALUE), BAD_VALUE);
    }

    private static void putBitsAbove(Due due) {
        for (int length = 0; length < 7; length++) {
            long text = Due.number("iiiiiii".substring(0, length));
            for (int bit = 8 * length + 8; bit < 64; bit++) {
                due.is(length + " characters and the bit " + bit, new WindowLetters().put(text | 1L << bit), BAD_VALUE);
            }
            long another = (long) 'i' << 8 * length + 8;
            due.is(length + " characters, a gap and another", new WindowLetters().put(text | another), BAD_VALUE);
        }
        due.is("an i at the top alone", new WindowLetters().put((long) 'i' << 56), BAD_VALUE);
    }

    private static void putTooMany(Due due) {
        for (int length = 72; length <= 80; length++) {
            for (int more = 1; more <= 8; more++) {
                WindowLetters x = withPad(new WindowLetters(), "i".repeat(length));
                boolean fits = length + more <= 80;
                due.is(more + " to " + length, x.put(Due.number("iiiiiiii".substring(0, more))), fits ? length + more : TOO_MANY);
                due.is("the length then", x.count(8), fits ? length + more : length);
            }
        }
        WindowLetters full = withPad(new WindowLetters(), "i".repeat(80));
        due.is("a bad code, ahead of too many", full.put(127), BAD_VALUE);
        due.is("a bit above, ahead of too many", full.put(1L << 32 | 'i'), BAD_VALUE);
    }

    private static void wipe(Due due) {
        WindowLetters x = new WindowLetters();
        due.is("an empty pad", x.wipe(), 0);
        due.is("a full pad", withPad(x, "i".repeat(80)).wipe(), 80);
        due.is("the length then", x.count(8), 0);
        due.is("once more", x.wipe(), 0);
        due.is("a character afterwards", x.put('l'), 1);
        due.is("nothing of the old text", x.fault(), NONE);
        WindowLetters y = withPad(Due.shop(1), "ilo");
        y.wipe();
        y.put('t');
        y.write(0, 0, 1, 0);
        due.is("the letter that is written", y.of(y.pane(0, 0), 0), T);
    }

    private static void nameLengths(Due due) {
        String text = "ilotuehsilotuehs";
        for (int length = 0; length <= 16; length++) {
            int fault = length == 0 ? 0 : length <= 12 ? NONE : 12;
            due.is("the fault of " + length, withPad(new WindowLetters(), text.substring(0, length)).fault(), fault);
        }
        due.is("the fault of 80", withPad(new WindowLetters(), text.repeat(5)).fault(), 12);
    }

    private static void nameLetters(Due due) {
        for (int code = 33; code <= 126; code++) {
            WindowLetters x = Due.shop(1);
            x.put(code);
            int letter = "ilotuehs".indexOf(code);
            due.is("the fault of the code " + code, x.fault(), letter < 0 ? 0 : NONE);
            due.is("write of the code " + code, x.write(0, 0, 1, 0), letter < 0 ? BAD_TEXT : 1);
            due.is("the letter of the code " + code, x.of(0, 0), letter < 0 ? NO_SUCH : letter);
        }
    }

    private static void faultIsTheFirst(Due due) {
        for (int index = 0; index < 12; index++) {
            StringBuilder text = new StringBuilder("ilotuehsilot");
            text.setCharAt(index, 'a');
            due.is("the fault of " + text, withPad(new WindowLetters(), text.toString()).fault(), index);
            text.setCharAt(11, 'x');
            due.is("the fault of " + text, withPad(new WindowLetters(), text.toString()).fault(), index);
            text.append("iiii");
            due.is("the fault of " + text, withPad(new WindowLetters(), text.toString()).fault(), index);
        }
    }

    private static void faultOfThirteenth(Due due) {
        due.is("a thirteenth letter", withPad(new WindowLetters(), "ilotuehsiloti").fault(), 12);
        due.is("a thirteenth character that is no letter", withPad(new WindowLetters(), "ilotuehsilota").fault(), 12);
        due.is("a fourteenth that is no letter", withPad(new WindowLetters(), "ilotuehsilotia").fault(), 12);
        due.is("the twelfth that is no letter", withPad(new WindowLetters(), "ilotuehsiloai").fault(), 11);
    }

    private static void faultOfEmpty(Due due) {
        WindowLetters x = new WindowLetters();
        due.is("an empty pad", x.fault(), 0);
        x.put('s');
        due.is("a name", x.fault(), NONE);
        x.wipe();
        due.is("a wiped pad", x.fault(), 0);
    }

    // ---- 23

    /** A shop in which each change is possible. */
    private static WindowLetters ready() {
        WindowLetters x = Due.shop(1, 2);
        x.make(1, L, 0);
        x.make(1, O, 1);
        x.place(1, 2, 3);
        x.save(1);
        x.make(2, T, 0);
        return withPad(x, "lot");
    }

    private static List<ToIntFunction<WindowLetters>> changes() {
        List<ToIntFunction<WindowLetters>> all = new ArrayList<>();
        all.add(x -> x.sheet(4));
        all.add(x -> x.cut(0, I, 3, 6, 9));
        all.add(x -> x.make(2, I, 1));
        all.add(x -> x.write(0, 0, 1, 0));
        all.add(x -> x.place(0, 1, 11));
        all.add(x -> x.clear(2));
        all.add(x -> x.throwAway(2));
        all.add(x -> x.scrap(0));
        all.add(x -> x.restore(1));
        return all;
    }

    private static void undoEachChange(Due due) {
        List<ToIntFunction<WindowLetters>> changes = changes();
        for (int i = 0; i < changes.size(); i++) {
            WindowLetters x = ready();
            x.clear(0);
            x.wipe();
            String before = Views.answers(x);
            Due.pad(x, "lot");
            int answer = changes.get(i).applyAsInt(x);
            due.is("whether the change " + i + " is done", answer >= 0 ? 1 : 0, 1);
            x.wipe();
            due.is("whether something is different", Views.answers(x).equals(before) ? 0 : 1, 1);
            x.undo();
            x.clear(0);
            due.is("whether all is as it was", Views.answers(x).equals(before) ? 1 : 0, 1);
        }
    }

    private static void undoLeavesPad(Due due) {
        WindowLetters x = withPad(Due.shop(1), "lo");
        x.make(1, I, 0);
        x.put('t');
        x.undo();
        due.is("the length", x.count(8), 3);
        x.write(0, 0, 1, 0);
        x.undo();
        due.is("the pad that write emptied", x.count(8), 0);
        x.put('u');
        x.undo();
        due.is("the sheet is gone", x.count(0), 0);
        due.is("the pad is not", x.count(8), 1);
    }

    private static void undoLeavesSlots(Due due) {
        WindowLetters x = Due.shop(1);
        x.make(1, I, 0);
        x.save(0);
        x.make(1, L, 0);
        x.save(0);
        x.save(1);
        x.undo();
        x.undo();
        x.undo();
        due.is("what was saved last in the slot 0", x.restore(0), 2);
        due.is("undo of restore", x.undo(), 0);
        due.is("what was saved in the slot 1", x.restore(1), 2);
        due.is("the piece", x.of(1, 0), L);
    }

    private static void changesRecord(Due due) {
        List<ToIntFunction<WindowLetters>> changes = changes();
        for (int i = 0; i < changes.size(); i++) {
            WindowLetters x = ready();
            while (x.count(9) > 2) {
                x.undo();
            }
            x.restore(1);
            x.make(2, T, 0);
            due.is("whether the change " + i + " is done", changes.get(i).applyAsInt(x) >= 0 ? 1 : 0, 1);
            due.is("how many can be undone", x.count(9), 5);
        }
    }

    private static void othersRecordNothing(Due due) {
        WindowLetters x = withPad(Due.shop(1), "i");
        x.of(0, 0);
        x.ofSheet(0, 4);
        x.row(0, 0);
        x.pane(0, 0);
        x.shape(0, 0, 0);
        x.count(0);
        x.fit(0, I, 0, 0);
        x.manyOf(0, I, 0);
        x.fits(0, I);
        x.colours(0, 0, 0);
        x.put('l');
        x.fault();
        x.wipe();
        x.save(0);
        x.save(2);
        x.sheet(0);
        x.scrap(1);
        x.restore(1);
        due.is("how many can be undone", x.count(9), 1);
        due.is("undo", x.undo(), 0);
        due.is("undo is no change itself", x.undo(), NOT_POSSIBLE);
        due.is("sheets", x.count(0), 0);
    }

    private static void recordedWithoutDifference(Due due) {
        WindowLetters x = Due.shop(1);
        x.clear(0);
        due.is("after clear of an empty pane", x.count(9), 2);
        x.save(0);
        x.restore(0);
        due.is("after restore of what there is", x.count(9), 3);
        due.is("undo of restore", x.undo(), 2);
        due.is("undo of clear", x.undo(), 1);
        due.is("the sheet is there yet", x.count(0), 1);
        CutSheets.cut(x, 0, CutSheets.WHOLE);
        x.scrap(0);
        due.is("after scrap of a sheet without squares", x.count(9), 6);
        due.is("undo of scrap", x.undo(), 5);
        due.is("not scrapped", x.ofSheet(0, 3), 0);
    }

    private static void oldestIsDropped(Due due) {
        WindowLetters x = Due.shop(1);
        for (int piece = 0; piece < 6; piece++) {
            x.make(1, I, 0);
        }
        due.is("how many can be undone", x.count(9), 6);
        for (int left = 5; left >= 0; left--) {
            due.is("undo", x.undo(), left);
            due.is("pieces", x.count(1), left);
        }
        due.is("the sheet's own change was dropped", x.undo(), NOT_POSSIBLE);
        due.is("sheets", x.count(0), 1);
        WindowLetters kept = Due.shop(1);
        for (int piece = 0; piece < 5; piece++) {
            kept.make(1, I, 0);
        }
        for (int left = 5; left >= 0; left--) {
            due.is("undo of the sixth", kept.undo(), left);
        }
        due.is("the sheet's own change was kept", kept.count(0), 0);
    }

    /** Changes and undos in turn, so that the six states begin at each place that they can be held at. */
    private static void historyRoundAndRound(Due due) {
        WindowLetters x = Due.shop(1, 1, 1);
        List<Integer> states = new ArrayList<>(List.of(0, 0, 0));
        int pieces = 0;
        int[] steps = {3, -2, 9, -6, 1, -1, 4, -3, 7, -5, 8, -4, 6, -6, 2, -1, 5, -6};
        for (int step : steps) {
            for (int i = 0; i < Math.abs(step); i++) {
                if (step > 0) {
                    states.add(pieces);
                    due.is("make", x.make(1, I, 0), pieces);
                    pieces++;
                } else {
                    pieces = states.remove(states.size() - 1);
                    x.undo();
                }
                while (states.size() > 6) {
                    states.remove(0);
                }
                due.is("pieces", x.count(1), pieces);
                due.is("how many can be undone", x.count(9), states.size());
            }
        }
        due.is("none is left", x.undo(), NOT_POSSIBLE);
    }

    private static void undoReturns(Due due) {
        WindowLetters x = Due.shop(1, 2, 3, 4);
        for (int left = 3; left >= 0; left--) {
            due.is("undo", x.undo(), left);
            due.is("sheets", x.count(0), left);
        }
        WindowLetters many = Due.fullShop();
        due.is("after 52 changes", many.undo(), 5);
        due.is("pieces", many.count(1), 47);
    }

    private static void undoNotPossible(Due due) {
        WindowLetters x = new WindowLetters();
        due.is("a new object", x.undo(), NOT_POSSIBLE);
        x.sheet(1);
        x.undo();
        due.is("when all is undone", x.undo(), NOT_POSSIBLE);
        due.is("once more", x.undo(), NOT_POSSIBLE);
        x.sheet(2);
        due.is("a change afterwards", x.undo(), 0);
    }

    // ---- 24 and 25

    private static void saveWhat(Due due) {
        WindowLetters x = ready();
        x.scrap(1);
        x.throwAway(2);
        x.wipe();
        x.save(0);
        String saved = Views.answers(x);
        Due.pad(x, "ilo");
        x.write(0, 0, 1, 0);
        x.clear(2);
        x.sheet(3);
        x.scrap(0);
        due.is("restore", x.restore(0), 3);
        due.is("whether all is as it was", Views.answers(x).equals(saved) ? 1 : 0, 1);
        WindowLetters pad = withPad(Due.shop(1), "ilo");
        pad.save(0);
        pad.put('t');
        pad.restore(0);
        due.is("the pad is not brought back", pad.count(8), 4);
        pad.undo();
        due.is("the history is not brought back, but grows", pad.count(9), 1);
        WindowLetters slots = Due.shop(1);
        slots.save(0);
        slots.make(1, I, 0);
        slots.save(1);
        slots.restore(0);
        due.is("the other slot is not brought back", slots.restore(1), 1);
    }

    private static void saveOverwrites(Due due) {
        WindowLetters x = Due.shop(1);
        x.make(1, I, 0);
        x.make(1, L, 0);
        x.save(0);
        x.save(1);
        x.undo();
        x.save(0);
        x.make(1, O, 0);
        due.is("the later one, with fewer pieces", x.restore(0), 1);
        due.is("the other slot", x.restore(1), 2);
        due.is("its second piece", x.of(1, 0), L);
    }

    private static void saveReturns(Due due) {
        due.is("none", new WindowLetters().save(0), 0);
        due.is("all 48", Due.fullShop().save(1), 48);
        WindowLetters x = Due.shop(1);
        x.make(1, I, 0);
        x.throwAway(0);
        due.is("a waste one, too", x.save(0), 1);
    }

    private static void saveBadValue(Due due) {
        due.bounds("save(slot)", 0, 1, BAD_VALUE, slot -> Due.shop(1).save(slot));
    }

    private static void restoreLast(Due due) {
        WindowLetters x = new WindowLetters();
        x.save(1);
        x.sheet(1);
        x.make(1, L, 0);
        x.save(0);
        x.make(1, L, 0);
        due.is("restore(0)", x.restore(0), 1);
        due.is("pieces", x.count(1), 1);
        due.is("squares that are cut", 126 - x.ofSheet(0, 1), 7);
        due.is("restore(1) of a shop without sheets", x.restore(1), 0);
        due.is("sheets", x.count(0), 0);
        due.is("the sheet is gone", x.ofSheet(0, 0), NO_SUCH);
        due.is("a sheet afterwards", x.sheet(2), 0);
        due.is("it is not cut", x.ofSheet(0, 1), 126);
    }

    private static void slotKeepsIt(Due due) {
        Supplier<WindowLetters> shop = () -> {
            WindowLetters x = ready();
            x.restore(1);
            return x;
        };
        String saved = Views.answers(withPad(shop.get(), ""));
        WindowLetters x = withPad(shop.get(), "");
        x.place(0, 0, 0);
        x.clear(2);
        x.scrap(0);
        x.make(2, I, 0);
        due.is("restore once more", x.restore(1), 2);
        due.is("whether all is as it was saved", Views.answers(x).equals(saved) ? 1 : 0, 1);
        x.undo();
        x.throwAway(2);
        due.is("restore after undo and a change", x.restore(1), 2);
        due.is("whether all is as it was saved", Views.answers(x).equals(saved) ? 1 : 0, 1);
    }

    private static void restoreIsAChange(Due due) {
        WindowLetters x = Due.shop(1);
        x.save(0);
        x.make(1, I, 0);
        x.make(1, L, 0);
        due.is("restore", x.restore(0), 0);
        due.is("how many can be undone", x.count(9), 4);
        due.is("undo", x.undo(), 3);
        due.is("pieces", x.count(1), 2);
        for (int i = 0; i < 6; i++) {
            x.restore(0);
        }
        due.is("how many can be undone after six more", x.count(9), 6);
        for (int left = 5; left >= 0; left--) {
            due.is("undo", x.undo(), left);
        }
        due.is("pieces", x.count(1), 2);
        due.is("undo of what was dropped", x.undo(), NOT_POSSIBLE);
    }

    private static void restoreReturns(Due due) {
        WindowLetters x = Due.fullShop();
        x.save(1);
        x.restore(1);
        due.is("all 48", x.restore(1), 48);
        WindowLetters none = new WindowLetters();
        none.save(0);
        none.sheet(1);
        none.make(1, I, 0);
        due.is("none", none.restore(0), 0);
        none.undo();
        none.throwAway(0);
        none.save(0);
        due.is("a waste one, too", none.restore(0), 1);
    }

    private static void restoreBadValue(Due due) {
        due.bounds("restore(slot)", 0, 1, BAD_VALUE, slot -> {
            WindowLetters x = Due.shop(1);
            x.save(0);
            x.save(1);
            return x.restore(slot);
        });
        due.is("ahead of nothing saved", new WindowLetters().restore(2), BAD_VALUE);
        due.is("ahead of nothing saved", new WindowLetters().restore(-1), BAD_VALUE);
    }

    private static void restoreNotPossible(Due due) {
        for (int slot = 0; slot < 2; slot++) {
            WindowLetters x = Due.shop(1);
            due.is("nothing in both", x.restore(slot), NOT_POSSIBLE);
            x.save(1 - slot);
            due.is("something in the other one", x.restore(slot), NOT_POSSIBLE);
            due.is("nothing is recorded", x.count(9), 1);
            x.save(slot);
            due.is("something in it", x.restore(slot), 0);
        }
        WindowLetters x = new WindowLetters();
        x.save(0);
        due.is("a saved shop without anything is something", x.restore(0), 0);
    }
}
