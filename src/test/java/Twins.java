import java.util.Map;
import java.util.function.Supplier;
import java.util.function.ToLongFunction;

/** Two works of the same beginning, of which one is asked and the other is not: whether the call changed anything. */
final class Twins {
    private Twins() {
    }

    /** A call that is refused: its answer is due, and all else is as if it had not been made. */
    static void refused(String call, Supplier<ColdWorks> beginning, ToLongFunction<ColdWorks> ask, long due) {
        ColdWorks asked = beginning.get();
        ColdWorks left = beginning.get();
        Due.is(call, ask.applyAsLong(asked), due);
        same(call + " is refused, yet ", Whole.now(asked), Whole.now(left));
        same(call + " is refused, yet later ", Whole.later(asked), Whole.later(left));
    }

    /** Whether a call changes what can be seen; it shows that refused() would see the change. */
    static boolean changes(Supplier<ColdWorks> beginning, ToLongFunction<ColdWorks> ask) {
        ColdWorks asked = beginning.get();
        ColdWorks left = beginning.get();
        ask.applyAsLong(asked);
        boolean now = Whole.now(asked).equals(Whole.now(left));
        boolean later = Whole.later(asked).equals(Whole.later(left));
        return !now || !later;
    }

    private static void same(String when, Map<String, Long> got, Map<String, Long> want) {
        for (Map.Entry<String, Long> e : want.entrySet()) {
            Due.is(when, e.getKey(), got.get(e.getKey()), e.getValue());
        }
    }
}
