/** The promises 20 to 22: put, wipe and fault. */
public final class TextsTest {
    private static final int NONE = -6;

    public static void main(String[] args) {
        Due due = new Due("TextsTest");
        due.part("20 put", TextsTest::put);
        due.part("21 wipe", TextsTest::wipe);
        due.part("22 fault", TextsTest::fault);
        due.end();
    }

    /** The order of the characters shows in the name that is written. */
    private static void put(Due due) {
        WindowLetters x = Due.shop(1);
        due.is("put(i)", x.put('i'), 1);
        due.is("put(lotu)", x.put(Due.number("lotu")), 5);
        due.is("write", x.write(0, 0, 1, 0), 5);
        for (int i = 0; i < 5; i++) {
            due.is("the letter at " + i, x.of(x.pane(0, i), 0), i);
        }
        due.is("put of eight", x.put(Due.number("ilotuehs")), 8);
        due.is("fault()", x.fault(), NONE);
        due.is("put of one", x.put('s'), 9);
        due.is("put is no change", x.count(9), 2);
    }

    private static void wipe(Due due) {
        WindowLetters x = new WindowLetters();
        due.is("wipe() of an empty one", x.wipe(), 0);
        x.put(Due.number("abc"));
        due.is("wipe()", x.wipe(), 3);
        due.is("count(8)", x.count(8), 0);
        due.is("fault()", x.fault(), 0);
        due.is("wipe is no change", x.count(9), 0);
        x.put('i');
        due.is("nothing of the old text is left", x.fault(), NONE);
    }

    private static void fault(Due due) {
        String[] texts = {"", "i", "ilotuehs", "ilotuehsilot", "ilotuehsilotu", "ilotuehsilotx", "ilotuehsilox",
            "iil1", "a", "ia", "I", "iL", "ilxyz", "j", "h~", "iiiiiiiiiiiiiiiiiii", "iiiiiiiiiiiiiiiiiia"};
        int[] faults = {0, NONE, NONE, NONE, 12, 12, 11, 3, 0, 1, 0, 1, 2, 0, 1, 12, 12};
        for (int i = 0; i < texts.length; i++) {
            WindowLetters x = new WindowLetters();
            Due.pad(x, texts[i]);
            due.is("fault() of \"" + texts[i] + "\"", x.fault(), faults[i]);
        }
        WindowLetters x = new WindowLetters();
        for (int code = 33; code <= 126; code++) {
            x.wipe();
            x.put(code);
            due.is("fault() of the code " + code, x.fault(), "ilotuehs".indexOf(code) >= 0 ? NONE : 0);
        }
    }
}
