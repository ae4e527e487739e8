import java.util.function.Consumer;

/** Compares answers with those that are due, and ends a test's main method. */
final class Due {
    private final String test;
    private String part = "";
    private int checks;
    private int wrong;

    Due(String test) {
        this.test = test;
    }

    void part(String name, Consumer<Due> checksOfPart) {
        part = name;
        checksOfPart.accept(this);
    }

    void is(String call, long got, long want) {
        checks++;
        if (got != want) {
            wrong++;
            System.out.println(test + ", " + part + ": " + call + " answered " + got + ", due is " + want);
        }
    }

    void end() {
        System.out.println(test + ": " + checks + " checks, " + wrong + " wrong");
        if (wrong != 0 || checks == 0) {
            System.exit(1);
        }
    }

    /** The number by which put is given a text of at most 8 characters. */
    static long number(String text) {
        long number = 0;
        for (int i = 0; i < text.length(); i++) {
            number = number << 8 | text.charAt(i);
        }
        return number;
    }

    /** Empties the pad and puts a text of any length to it. */
    static void pad(WindowLetters x, String text) {
        x.wipe();
        for (int i = 0; i < text.length(); i += 8) {
            x.put(number(text.substring(i, Math.min(text.length(), i + 8))));
        }
    }

    /** A shop with one sheet of each of the colours. */
    static WindowLetters shop(int... colours) {
        WindowLetters x = new WindowLetters();
        for (int colour : colours) {
            x.sheet(colour);
        }
        return x;
    }

    /** A shop with 48 loose pieces: upright I's, 12 of each of four sheets of the colour 1. */
    static WindowLetters fullShop() {
        WindowLetters x = shop(1, 1, 1, 1);
        for (int i = 0; i < 48; i++) {
            x.cut(i / 12, 0, 0, 0, i % 12);
        }
        return x;
    }
}
