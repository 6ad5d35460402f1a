import java.util.ArrayList;
import java.util.List;
import java.util.function.BiConsumer;
import java.util.function.Supplier;
import java.util.function.ToIntFunction;

/**
 * Shows that a call changed nothing: an object that had the call and one that had not are looked at
 * in every way, and are used further. Each look has an object of its own, to stay below 512 calls.
 */
final class Unchanged {
    static final int AS_IT_WAS = -1;

    private static final List<BiConsumer<BilletBars, List<Long>>> LOOKS = List.of(
        Unchanged::lookAtCounts, Unchanged::lookAtBars, Unchanged::lookAtPatterns, Unchanged::lookAtSettings,
        Unchanged::lookAtSheets, Unchanged::goOn);

    private Unchanged() {
    }

    /** number: what count(6) is then. */
    static void compare(String call, Supplier<BilletBars> made, ToIntFunction<BilletBars> asked, int want,
            int number) {
        for (int k = 0; k < LOOKS.size(); k++) {
            BilletBars x = made.get();
            int finding = number == AS_IT_WAS ? x.count(6) : number;
            Answers.due(call, asked.applyAsInt(x), want);
            Answers.due(call + ", then count(6)", x.count(6), finding);
            dueAlike(call + ", then look " + k, seen(k, x), seen(k, made.get()));
        }
    }

    private static List<Long> seen(int look, BilletBars x) {
        List<Long> seen = new ArrayList<>();
        LOOKS.get(look).accept(x, seen);
        return seen;
    }

    private static void dueAlike(String call, List<Long> got, List<Long> want) {
        Answers.due(call + ": its length", got.size(), want.size());
        for (int i = 0; i < Math.min(got.size(), want.size()); i++) {
            Answers.due(call + ": answer " + i, got.get(i), want.get(i));
        }
    }

    private static void see(List<Long> seen, long answer) {
        seen.add(answer);
    }

    private static void lookAtCounts(BilletBars x, List<Long> seen) {
        for (int what : new int[] {0, 1, 2, 3, 4, 5, 7}) {
            see(seen, x.count(what));
        }
        for (int what = 0; what <= 6; what++) {
            see(seen, x.account(what));
            see(seen, x.planned(what));
        }
        for (int die = 0; die < 12; die++) {
            for (int what = 0; what <= 5; what++) {
                see(seen, x.about(die, what));
            }
        }
        for (int profile = 0; profile < 8; profile++) {
            see(seen, x.ready(profile));
        }
        see(seen, x.digest());
        see(seen, x.late());
        see(seen, x.batches());
        see(seen, x.held());
    }

    private static void lookAtBars(BilletBars x, List<Long> seen) {
        for (int bar : new int[] {0, 1, 2, 3, 4, 5, 6, 7, 199}) {
            for (int what = 0; what <= 6; what++) {
                see(seen, x.bar(bar, what));
            }
            see(seen, x.suspect(bar));
            see(seen, x.drift(bar, bar));
            see(seen, x.drift(0, bar));
        }
        for (int profile = 0; profile < 8; profile++) {
            for (int order = 0; order < 3; order++) {
                see(seen, x.wanted(profile, order));
            }
        }
    }

    private static void lookAtPatterns(BilletBars x, List<Long> seen) {
        for (int profile = 0; profile < 8; profile++) {
            for (int what = 0; what <= 3; what++) {
                see(seen, x.pattern(profile, 1250, what));
                see(seen, x.pattern(profile, 200000, what));
            }
        }
        for (int die = 0; die < 12; die++) {
            see(seen, x.best(die, false));
            see(seen, x.best(die, true));
        }
    }

    /** What was set is told by setting it anew. */
    private static void lookAtSettings(BilletBars x, List<Long> seen) {
        for (int n = 0; n < 7; n++) {
            see(seen, x.best(0, false));
            see(seen, x.stock(200 + 10 * n));
        }
        for (int what = 0; what <= 5; what++) {
            see(seen, x.law(what, 0));
        }
        see(seen, x.change(0));
        see(seen, x.late());
        see(seen, x.room(1000));
        see(seen, x.batches());
    }

    private static void lookAtSheets(BilletBars x, List<Long> seen) {
        for (int s = 0; s < 4; s++) {
            for (int form = 0; form <= 2; form++) {
                for (int i : new int[] {0, 1, 2, 3, 4, 5, 199}) {
                    see(seen, x.get(s, form, i));
                }
            }
            see(seen, x.lose(s));
        }
    }

    private static void goOn(BilletBars x, List<Long> seen) {
        pressAll(x, seen);
        for (int die = 0; die < 12; die++) {
            see(seen, x.warm(die));
        }
        see(seen, x.pass(3));
        pressAll(x, seen);
        for (int die = 0; die < 12; die++) {
            see(seen, x.cool(die));
            see(seen, x.nitride(die));
        }
        for (int n = 0; n < 4; n++) {
            see(seen, x.age());
        }
        for (int profile = 0; profile < 8; profile++) {
            see(seen, x.order(profile, 400, 4));
        }
        see(seen, x.profile(0, 5, 0, 100));
        see(seen, x.die(0, 1));
        see(seen, x.job(0, 1, 1));
        see(seen, x.sample(0, false));
        see(seen, x.held());
        see(seen, x.late());
        see(seen, x.digest());
    }

    /** Twice each, so that the second shot of a die has a weld. */
    private static void pressAll(BilletBars x, List<Long> seen) {
        for (int die = 0; die < 12; die++) {
            see(seen, x.press(die, 300));
            see(seen, x.press(die, 310));
        }
        see(seen, x.digest());
    }
}
