import java.util.function.IntToLongFunction;
import java.util.function.LongSupplier;
import java.util.function.Supplier;
import java.util.function.ToLongFunction;

/** What is asked again and again at the bounds of a call: arguments, refusals, saved states. */
final class Bound {
    private static final int MOST_SAVED = 6;

    /** A call with one argument left open. */
    interface Asks {
        long with(AreaPicker p, int argument);
    }

    private Bound() {
    }

    static String answer(LongSupplier asks) {
        try {
            return "" + asks.getAsLong();
        } catch (RuntimeException e) {
            return "throws." + e.getClass().getSimpleName();
        }
    }

    static void throwsJust(String call, String due, LongSupplier asks) {
        Check.sameText(call, answer(asks), "throws." + due);
    }

    /**
     * The call throws just this exception; then the object and its saved states are those of a twin
     * that was not asked.
     */
    static void refused(String call, String due, Supplier<AreaPicker> made, ToLongFunction<AreaPicker> asks) {
        AreaPicker p = made.get();
        throwsJust(call, due, () -> asks.applyAsLong(p));
        sameState(call + " refused, then ", p, made.get());
    }

    /** Compares two objects, and all that undo brings back; both are used up by it. */
    static void sameState(String when, AreaPicker p, AreaPicker twin) {
        Check.same(when + "digest()", p.digest(), twin.digest());
        int saved = twin.count(8);
        Check.same(when + "count(8)", p.count(8), saved);
        for (int left = saved - 1; left >= 0; left--) {
            twin.undo();
            Check.sameText(when + "undo()", answer(p::undo), "" + left);
            Check.same(when + "digest() with " + left + " saved", p.digest(), twin.digest());
        }
    }

    /** The argument may be each number from least to most, with the due answers, and no other one. */
    static void takes(String name, Supplier<AreaPicker> made, int least, int most, String due,
            Asks asks, IntToLongFunction answers) {
        for (int n = least; n <= most; n++) {
            int argument = n;
            AreaPicker p = made.get();
            Check.sameText("with " + name + " " + n, answer(() -> asks.with(p, argument)),
                    "" + answers.applyAsLong(n));
        }
        refusesOthers(name, made, least, most, due, asks);
    }

    static void refusesOthers(String name, Supplier<AreaPicker> made, int least, int most, String due, Asks asks) {
        for (int n : beyond(least, most)) {
            if (n < least || n > most) {
                refused("with " + name + " " + n, due, made, p -> asks.with(p, n));
            }
        }
    }

    /** Numbers outside, among them such as a sum, a product or a narrower type would bring inside. */
    private static int[] beyond(int least, int most) {
        return new int[] {
            least - 1, most + 1, least - 2, most + 2, -most - 1, most + 16, -least - 1, -1,
            Integer.MIN_VALUE, Integer.MAX_VALUE, Integer.MIN_VALUE + least, Integer.MAX_VALUE - most,
            (1 << 28) + least, (1 << 29) + least, (1 << 30) + most, -(1 << 28) + most,
            256 + least, 65536 + least, -65536 + most, -256 + most,
        };
    }

    /** Six more states are saved, all of them different: the next one drops the oldest. */
    static AreaPicker withSixSaved(AreaPicker p) {
        int shade = p.cell(15, 9, 0);
        for (int i = 1; i < MOST_SAVED; i++) {
            p.draw(15, 9, 15, 9, (shade + i) % 100);
        }
        p.draw(15, 9, 15, 9, shade);
        return p;
    }

    /** The call saves just the state from before it: with few saved states, and with six. */
    static void undoable(String call, Supplier<AreaPicker> made, ToLongFunction<AreaPicker> asks) {
        AreaPicker p = made.get();
        long before = p.digest();
        int saved = p.count(8);
        Check.same("saved states ahead of " + call + " are six:", saved >= MOST_SAVED ? 1 : 0, 0);
        asks.applyAsLong(p);
        Check.same("saved states after " + call, p.count(8), saved + 1);
        Check.sameText("undo of " + call, answer(p::undo), "" + saved);
        Check.same("digest after undo of " + call, p.digest(), before);
        AreaPicker full = withSixSaved(made.get());
        AreaPicker twin = withSixSaved(made.get());
        asks.applyAsLong(full);
        Check.same("saved states after " + call + " with six", full.count(8), MOST_SAVED);
        full.undo();
        twin.draw(15, 9, 15, 9, twin.cell(15, 9, 0));
        twin.undo();
        sameState("undo of " + call + " with six, then ", full, twin);
    }

    static void notUndoable(String call, Supplier<AreaPicker> made, ToLongFunction<AreaPicker> asks) {
        AreaPicker p = made.get();
        int saved = p.count(8);
        asks.applyAsLong(p);
        Check.same("saved states after " + call, p.count(8), saved);
    }
}
