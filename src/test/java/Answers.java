import java.util.ArrayList;
import java.util.List;
import java.util.function.IntUnaryOperator;
import java.util.function.Supplier;
import java.util.function.ToIntFunction;

/** What tests say of answers that are due; what is wrong is gathered until the test that found it has ended. */
abstract class Answers {
    static final int NONE = -1;
    static final int BAD = -2;
    static final int NOT = -3;
    static final int FULL = -4;
    static final int NULL = -11;
    static final int INDEX = -12;
    static final int CAST = -13;
    static final int STORE = -14;
    static final int SIZE = -15;
    static final int LEAST = Integer.MIN_VALUE;
    static final int MOST = Integer.MAX_VALUE;

    private static List<String> wrong = new ArrayList<>();

    static void due(String call, long got, long want) {
        if (got != want) {
            wrong.add(call + " answered " + got + ", due is " + want);
        }
    }

    /** The answers for 0, 1, 2 and so on. */
    static void dueRow(String call, IntUnaryOperator answer, int... want) {
        for (int i = 0; i < want.length; i++) {
            due(call + " for " + i, answer.applyAsInt(i), want[i]);
        }
    }

    static void dueAll(String call, IntUnaryOperator answer, int want, int... numbers) {
        for (int v : numbers) {
            due(call + " for " + v, answer.applyAsInt(v), want);
        }
    }

    /** Both numbers, those next to them on the far side, and the ints that are farthest off. */
    static void dueOutside(String call, IntUnaryOperator answer, int below, int above, int want) {
        dueAll(call, answer, want, LEAST, LEAST + 1, below - 1, below, above, above + 1, 1 << 30, MOST);
    }

    static void dueBad(String call, IntUnaryOperator answer, int below, int above) {
        dueOutside(call, answer, below, above, BAD);
    }

    /** A number is taken from least to most, with one answer, and is BAD on both sides. */
    static void dueRange(String call, IntUnaryOperator answer, int least, int most, int want) {
        dueAll(call, answer, want, least, least + 1, most - 1, most);
        dueBad(call, answer, least - 1, most + 1);
    }

    /** The call answers so and changes nothing: for readings, and for what is BAD, NOT or FULL. */
    static void dueUnchanged(String call, Supplier<BilletBars> made, ToIntFunction<BilletBars> asked, int want) {
        Unchanged.compare(call, made, asked, want, Unchanged.AS_IT_WAS);
    }

    /** The call answers so, count(6) becomes the number of the finding, and nothing else changes. */
    static void dueFinding(String call, Supplier<BilletBars> made, ToIntFunction<BilletBars> asked, int want,
            int number) {
        Unchanged.compare(call, made, asked, want, number);
    }

    static List<String> takeWrong() {
        List<String> taken = wrong;
        wrong = new ArrayList<>();
        return taken;
    }
}
