import java.util.function.Consumer;
import java.util.function.IntUnaryOperator;
import java.util.function.Supplier;
import java.util.function.ToIntFunction;

/** Compares answers with those that are due, and ends a test's main method. */
final class Due {
    private final String test;
    private String part = "";
    private int checks;
    private int wrong;

    Due(String test) {
        this.test = test;
    }

    void part(String name, Consumer<Due> checksOfPart) {
        part = name;
        checksOfPart.accept(this);
    }

    int checks() {
        return checks;
    }

    void is(String call, long got, long want) {
        checks++;
        if (got != want) {
            wrong++;
            System.out.println(test + ", " + part + ": " + call + " answered " + got + ", due is " + want);
        }
    }

    /**
     * A number that is given to a call is refused with a code outside of a range, near to it, far from it, and where
     * its lowest bits would be in range, and is not refused with it inside.
     */
    void bounds(String call, int low, int high, int code, IntUnaryOperator answer) {
        for (int number = low; number <= high; number++) {
            is("whether " + call + " is refused with " + number, answer.applyAsInt(number) == code ? 1 : 0, 0);
        }
        int[] outside = {low - 1, high + 1, low - 2, high + 2, low + 16, low + 32, high + 32, low + 64, low + 256,
            high + 256, low - 256, low + (1 << 16), low + (1 << 31), high + (1 << 31), Integer.MIN_VALUE,
            Integer.MAX_VALUE};
        for (int number : outside) {
            if (number < low || number > high) {
                is(call + " with " + number, answer.applyAsInt(number), code);
            }
        }
    }

    /** A call answers an error, and nothing that can be learned of the object is different for it. */
    void refuses(String call, int code, Supplier<WindowLetters> made, ToIntFunction<WindowLetters> asked) {
        is(call, asked.applyAsInt(made.get()), code);
        boolean same = Views.after(made, asked).equals(Views.after(made, x -> 0));
        is("whether something is different after " + call, same ? 0 : 1, 0);
    }

    void end() {
        System.out.println(test + ": " + checks + " checks, " + wrong + " wrong");
        if (wrong != 0 || checks == 0) {
            System.exit(1);
        }
    }

    /** The number by which put is given a text of at most 8 characters. */
    static long number(String text) {
        long number = 0;
        for (int i = 0; i < text.length(); i++) {
            number = number << 8 | text.charAt(i);
        }
        return number;
    }

    /** Empties the pad and puts a text of any length to it. */
    static void pad(WindowLetters x, String text) {
        x.wipe();
        for (int i = 0; i < text.length(); i += 8) {
            x.put(number(text.substring(i, Math.min(text.length(), i + 8))));
        }
    }

    /** A shop with one sheet of each of the colours. */
    static WindowLetters shop(int... colours) {
        WindowLetters x = new WindowLetters();
        for (int colour : colours) {
            x.sheet(colour);
        }
        return x;
    }

    /** A shop with 48 loose pieces: upright I's, 12 of each of four sheets of the colour 1. */
    static WindowLetters fullShop() {
        WindowLetters x = shop(1, 1, 1, 1);
        for (int i = 0; i < 48; i++) {
            x.cut(i / 12, 0, 0, 0, i % 12);
        }
        return x;
    }
}
