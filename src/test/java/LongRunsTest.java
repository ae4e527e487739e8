/**
 * Runs of 512 calls, the same ones each time, on the class and on PlainShop: every answer has to be the same.
 * The calls are mixed by a plain sequence of numbers; some runs prefer one letter, so that pieces run out.
 */
public final class LongRunsTest {
    private static final int RUNS = 600, CALLS = 512, CALLS_OF_A_STEP = 5;
    private static final int[] WILD = {-1, -6, 2, 3, 5, 6, 7, 8, 9, 10, 12, 13, 14, 48, 100, Integer.MIN_VALUE,
        Integer.MAX_VALUE};

    private final Due due;
    private final WindowLetters x = new WindowLetters();
    private final PlainShop plain = new PlainShop();
    private final int wildness;
    private final int onlyLetter;
    private long sequence;

    private LongRunsTest(Due due, int run) {
        this.due = due;
        this.sequence = 77L * run + 5;
        this.wildness = run % 3 == 0 ? 25 : 4;
        this.onlyLetter = run % 4 == 1 ? run / 4 % 8 : -1;
    }

    public static void main(String[] args) {
        Due due = new Due("LongRunsTest");
        for (int run = 0; run < RUNS; run++) {
            int number = run;
            due.part("run " + run, d -> new LongRunsTest(d, number).go());
        }
        due.end();
    }

    /** Each check is one call, of which an object is promised to answer 512. */
    private void go() {
        int first = due.checks();
        int sheets = onlyLetter >= 0 ? 6 : 1 + upTo(3);
        for (int calls = 0; calls < CALLS; calls = due.checks() - first) {
            String number = calls + ": ";
            if (calls < sheets) {
                sheet(number);
            } else if (calls <= CALLS - CALLS_OF_A_STEP && upTo(100) < 50) {
                change(number);
            } else {
                ask(number);
            }
        }
    }

    private void sheet(String number) {
        int colour = some(1, 4);
        due.is(number + "sheet(" + colour + ")", x.sheet(colour), plain.sheet(colour));
    }

    private void change(String number) {
        switch (upTo(21)) {
            case 0: sheet(number); break;
            case 1: case 2: case 3: case 4: case 5: cut(number); break;
            case 6: case 7: case 8: make(number); break;
            case 9: case 10: case 11: write(number); break;
            case 12: case 13: place(number); break;
            case 14: clear(number); break;
            case 15: throwAway(number); break;
            case 16: scrap(number); break;
            case 17: case 18: goBack(number); break;
            case 19: save(number); break;
            default: pad(number); break;
        }
    }

    /** Seldom in the runs in which pieces run out. */
    private void goBack(String number) {
        if (onlyLetter >= 0 && upTo(8) > 0) {
            make(number);
        } else if (upTo(3) > 0) {
            due.is(number + "undo()", x.undo(), plain.undo());
        } else {
            int slot = some(0, 1);
            due.is(number + "restore(" + slot + ")", x.restore(slot), plain.restore(slot));
        }
    }

    private void cut(String number) {
        int sheet = some(0, plain.count(0) - 1);
        int letter = letter();
        int way = some(0, 7);
        int row = some(0, 6);
        int column = some(0, 11);
        due.is(number + "cut(" + sheet + ", " + letter + ", " + way + ", " + row + ", " + column + ")",
            x.cut(sheet, letter, way, row, column), plain.cut(sheet, letter, way, row, column));
    }

    private void make(String number) {
        int colour = some(1, 4);
        int letter = letter();
        int mirrored = some(0, 1);
        due.is(number + "make(" + colour + ", " + letter + ", " + mirrored + ")",
            x.make(colour, letter, mirrored), plain.make(colour, letter, mirrored));
    }

    private void write(String number) {
        name(number);
        int pane = some(0, 2);
        int place = some(0, 11);
        int mirrored = some(0, 1);
        due.is(number + "colours(" + pane + ", " + place + ", " + mirrored + ")",
            x.colours(pane, place, mirrored), plain.colours(pane, place, mirrored));
        int colour = some(1, 4);
        due.is(number + "write(" + pane + ", " + place + ", " + colour + ", " + mirrored + ")",
            x.write(pane, place, colour, mirrored), plain.write(pane, place, colour, mirrored));
    }

    private void place(String number) {
        int piece = some(0, plain.count(1) - 1);
        int pane = some(0, 2);
        int place = some(0, 11);
        due.is(number + "place(" + piece + ", " + pane + ", " + place + ")",
            x.place(piece, pane, place), plain.place(piece, pane, place));
    }

    private void clear(String number) {
        int pane = some(0, 2);
        due.is(number + "clear(" + pane + ")", x.clear(pane), plain.clear(pane));
    }

    private void throwAway(String number) {
        int piece = some(0, plain.count(1) - 1);
        due.is(number + "throwAway(" + piece + ")", x.throwAway(piece), plain.throwAway(piece));
    }

    /** Seldom a sheet that pieces are cut from, so that something is left. */
    private void scrap(String number) {
        int sheet = some(upTo(8) == 0 ? 0 : onlyLetter >= 0 ? 5 : 1, 5);
        due.is(number + "scrap(" + sheet + ")", x.scrap(sheet), plain.scrap(sheet));
    }

    private void save(String number) {
        int slot = some(0, 1);
        due.is(number + "save(" + slot + ")", x.save(slot), plain.save(slot));
    }

    private void pad(String number) {
        if (upTo(4) == 0) {
            due.is(number + "wipe()", x.wipe(), plain.wipe());
            return;
        }
        long characters = 0;
        int length = upTo(9);
        for (int i = 0; i < length; i++) {
            characters = characters << 8 | (upTo(3 * wildness) == 0 ? upTo(256) : "ilotuehs".charAt(upTo(8)));
        }
        due.is(number + "put(" + characters + ")", x.put(characters), plain.put(characters));
    }

    /** Mostly a fresh name of a few letters, so that it can be written. */
    private void name(String number) {
        if (upTo(4) > 0) {
            due.is(number + "wipe()", x.wipe(), plain.wipe());
        }
        int length = 1 + upTo(upTo(3) == 0 ? 8 : 3);
        long characters = 0;
        for (int i = 0; i < length; i++) {
            characters = characters << 8 | "ilotuehs".charAt(onlyLetter >= 0 ? onlyLetter : upTo(8));
        }
        due.is(number + "put(" + characters + ")", x.put(characters), plain.put(characters));
        due.is(number + "fault()", x.fault(), plain.fault());
    }

    private void ask(String number) {
        int sheet = some(0, plain.count(0) - 1);
        int letter = some(0, 7);
        int mirrored = some(0, 1);
        int what = some(0, 9);
        String three = "(" + sheet + ", " + letter + ", " + mirrored + ")";
        switch (upTo(9)) {
            case 0: {
                int piece = some(0, plain.count(1) - 1);
                due.is(number + "of(" + piece + ", " + what + ")", x.of(piece, what), plain.of(piece, what));
                break;
            }
            case 1: {
                int about = some(0, 4);
                due.is(number + "ofSheet(" + sheet + ", " + about + ")",
                    x.ofSheet(sheet, about), plain.ofSheet(sheet, about));
                break;
            }
            case 2: {
                int row = some(0, 8);
                due.is(number + "row(" + sheet + ", " + row + ")", x.row(sheet, row), plain.row(sheet, row));
                break;
            }
            case 3: {
                int pane = some(0, 2);
                int place = some(0, 11);
                due.is(number + "pane(" + pane + ", " + place + ")", x.pane(pane, place), plain.pane(pane, place));
                break;
            }
            case 4: {
                int way = some(0, 7);
                int row = some(0, 4);
                due.is(number + "shape(" + letter + ", " + way + ", " + row + ")",
                    x.shape(letter, way, row), plain.shape(letter, way, row));
                break;
            }
            case 5: due.is(number + "count(" + what + ")", x.count(what), plain.count(what)); break;
            case 6: {
                int about = some(0, 2);
                due.is(number + "fit" + three + ", " + about,
                    x.fit(sheet, letter, mirrored, about), plain.fit(sheet, letter, mirrored, about));
                break;
            }
            case 7:
                due.is(number + "manyOf" + three, x.manyOf(sheet, letter, mirrored), plain.manyOf(sheet, letter, mirrored));
                break;
            default:
                due.is(number + "fits" + three, x.fits(sheet, letter), plain.fits(sheet, letter));
                break;
        }
    }

    private int letter() {
        return onlyLetter >= 0 && upTo(6) > 0 ? onlyLetter : some(0, 7);
    }

    /** A number of a range, now and then one that is most likely out of it. */
    private int some(int low, int high) {
        if (upTo(8 * wildness) == 0) {
            return WILD[upTo(WILD.length)];
        }
        return high < low ? low : low + upTo(high - low + 1);
    }

    private int upTo(int bound) {
        sequence = sequence * 6364136223846793005L + 1442695040888963407L;
        return (int) ((sequence >>> 33) % bound);
    }
}
