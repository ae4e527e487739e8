/** The promises 20 to 22: put, wipe and fault. */
public final class TextsTest {
    private static final int BAD_VALUE = -2, TOO_MANY = -4, NONE = -6;

    public static void main(String[] args) {
        Due due = new Due("TextsTest");
        due.part("20 put", TextsTest::put);
        due.part("20 put, errors", TextsTest::putErrors);
        due.part("20 put, the bound", TextsTest::putUpToTheBound);
        due.part("21 wipe", TextsTest::wipe);
        due.part("22 fault", TextsTest::fault);
        due.end();
    }

    /** The order of the characters shows in the name that is written. */
    private static void put(Due due) {
        WindowLetters x = Due.shop(1);
        due.is("put(i)", x.put('i'), 1);
        due.is("put(lotu)", x.put(Due.number("lotu")), 5);
        due.is("write", x.write(0, 0, 1, 0), 5);
        for (int i = 0; i < 5; i++) {
            due.is("the letter at " + i, x.of(x.pane(0, i), 0), i);
        }
        due.is("put of eight", x.put(Due.number("ilotuehs")), 8);
        due.is("fault()", x.fault(), NONE);
        due.is("put of one", x.put('s'), 9);
        due.is("put is no change", x.count(9), 2);
    }

    private static void putErrors(Due due) {
        WindowLetters x = new WindowLetters();
        long[] bad = {0, 32, 127, 128, 255, 256, 0x6900, 0x690069, 0x2069, 0x6920, 0x7f69, 0xe969, -1, Long.MIN_VALUE,
            Long.MAX_VALUE, Long.MIN_VALUE | 0x69, 1L << 56 | 0x69, 0x0100000000000069L, 0x6969696969696900L,
            0x6969690069696969L, 0x8069696969696969L, 0x2069696969696969L, 0x7f69696969696969L, 'i' | 1L << 32};
        for (long number : bad) {
            due.is("put(" + number + ")", x.put(number), BAD_VALUE);
        }
        due.is("count(8)", x.count(8), 0);
        due.is("the lowest code", x.put(33), 1);
        due.is("the highest code", x.put(126), 2);
        due.is("the highest code eight times", x.put(0x7e7e7e7e7e7e7e7eL), 10);
        due.is("the lowest code eight times", x.put(0x2121212121212121L), 18);
    }

    private static void putUpToTheBound(Due due) {
        WindowLetters x = new WindowLetters();
        for (int i = 1; i <= 9; i++) {
            due.is("put " + i, x.put(Due.number("iiiiiiii")), 8 * i);
        }
        due.is("to 73", x.put('i'), 73);
        due.is("beyond 80", x.put(Due.number("iiiiiiii")), TOO_MANY);
        due.is("a bad number ahead of too many", x.put(0), BAD_VALUE);
        due.is("to 80", x.put(Due.number("iiiiiii")), 80);
        due.is("to 81", x.put('i'), TOO_MANY);
        due.is("count(8)", x.count(8), 80);
        due.is("wipe()", x.wipe(), 80);
        due.is("put again", x.put('i'), 1);
    }

    private static void wipe(Due due) {
        WindowLetters x = new WindowLetters();
        due.is("wipe() of an empty one", x.wipe(), 0);
        x.put(Due.number("abc"));
        due.is("wipe()", x.wipe(), 3);
        due.is("count(8)", x.count(8), 0);
        due.is("fault()", x.fault(), 0);
        due.is("wipe is no change", x.count(9), 0);
        x.put('i');
        due.is("nothing of the old text is left", x.fault(), NONE);
    }

    private static void fault(Due due) {
        String[] texts = {"", "i", "ilotuehs", "ilotuehsilot", "ilotuehsilotu", "ilotuehsilotx", "ilotuehsilox",
            "iil1", "a", "ia", "I", "iL", "ilxyz", "j", "h~", "iiiiiiiiiiiiiiiiiii", "iiiiiiiiiiiiiiiiiia"};
        int[] faults = {0, NONE, NONE, NONE, 12, 12, 11, 3, 0, 1, 0, 1, 2, 0, 1, 12, 12};
        for (int i = 0; i < texts.length; i++) {
            WindowLetters x = new WindowLetters();
            Due.pad(x, texts[i]);
            due.is("fault() of \"" + texts[i] + "\"", x.fault(), faults[i]);
        }
        WindowLetters x = new WindowLetters();
        for (int code = 33; code <= 126; code++) {
            x.wipe();
            x.put(code);
            due.is("fault() of the code " + code, x.fault(), "ilotuehs".indexOf(code) >= 0 ? NONE : 0);
        }
    }
}
