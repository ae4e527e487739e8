import java.util.ArrayList;
import java.util.Arrays;
import java.util.List;
import java.util.function.Supplier;
import java.util.function.ToIntFunction;

/**
 * All that can be learned of an object after a call: what it answers now, after each undo, after each
 * restore, and what its pad writes. Each view is taken of an object of its own, as undo and restore are changes
 * themselves and no object is used for more than 512 calls.
 */
final class Views {
    private static final int[] OF_A_PIECE = {0, 3, 4, 5, 6, 7};

    private Views() {
    }

    static String after(Supplier<WindowLetters> made, ToIntFunction<WindowLetters> call) {
        StringBuilder all = new StringBuilder();
        for (int back = 0; back <= 7; back++) {
            WindowLetters x = called(made, call);
            all.append("undone:");
            for (int i = 0; i < back; i++) {
                all.append(' ').append(x.undo());
            }
            all.append(' ').append(answers(x));
        }
        for (int slot = 0; slot < 2; slot++) {
            WindowLetters x = called(made, call);
            all.append("restored: ").append(x.restore(slot)).append(' ').append(answers(x));
        }
        WindowLetters x = called(made, call);
        all.append("written: ").append(x.write(2, 0, 1, 0)).append(' ').append(answers(x));
        return all.toString();
    }

    private static WindowLetters called(Supplier<WindowLetters> made, ToIntFunction<WindowLetters> call) {
        WindowLetters x = made.get();
        call.applyAsInt(x);
        return x;
    }

    /** What an object answers now. */
    static String answers(WindowLetters x) {
        List<Integer> all = new ArrayList<>();
        for (int what = 0; what < 10; what++) {
            all.add(x.count(what));
        }
        all.add(x.fault());
        for (int sheet = 0; sheet < x.count(0); sheet++) {
            for (int what = 0; what < 5; what++) {
                all.add(x.ofSheet(sheet, what));
            }
            for (int row = 0; row < 9; row++) {
                all.add(x.row(sheet, row));
            }
        }
        int pieces = x.count(1);
        for (int piece = 0; piece < pieces; piece++) {
            for (int what : OF_A_PIECE) {
                all.add(x.of(piece, what));
            }
        }
        for (int spot = 0; spot < 36; spot++) {
            all.add(x.pane(spot / 12, spot % 12));
        }
        return Arrays.toString(all.toArray());
    }
}
