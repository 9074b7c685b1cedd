import java.util.LinkedHashMap;
import java.util.Map;

/** All that works answer: what can be read of them now, and what they do from now on. */
final class Whole {
    /** Values that set() always takes, so that a setting can be read by it and put back. */
    private static final int[] ALWAYS_TAKEN = {ColdWorks.NONE, 0, 0, 5000, 60, 30};

    private Whole() {
    }

    /** 84 calls, which leave the works as they are. */
    static Map<String, Long> now(ColdWorks x) {
        Map<String, Long> all = new LinkedHashMap<>();
        all.put("trace()", x.trace());
        for (int i = 0; i < 10; i++) {
            all.put("count(" + i + ")", (long) x.count(i));
        }
        for (int i = 0; i < 4; i++) {
            all.put("heat(" + i + ")", x.heat(i));
            all.put("meter(" + i + ")", x.meter(i));
            all.put("balance(" + i + ")", x.balance(i));
        }
        for (int i = 0; i < 3; i++) {
            all.put("valve(" + i + ")", (long) x.valve(i));
            all.put("adsorber(0, " + i + ")", (long) x.adsorber(0, i));
            all.put("adsorber(1, " + i + ")", (long) x.adsorber(1, i));
        }
        for (int i = 0; i < 8; i++) {
            eighth(x, i, all);
        }
        for (int what = 0; what < ALWAYS_TAKEN.length; what++) {
            all.put("set(" + what + ")", setting(x, what));
        }
        return all;
    }

    private static void eighth(ColdWorks x, int i, Map<String, Long> all) {
        all.put("side(0, " + i + ")", (long) x.side(0, i));
        all.put("side(1, " + i + ")", (long) x.side(1, i));
        for (int what = 0; what < 3; what++) {
            all.put("about(" + i + ", " + what + ")", (long) x.about(i, what));
        }
    }

    private static long setting(ColdWorks x, int what) {
        int was = x.set(what, ALWAYS_TAKEN[what]);
        x.set(what, was);
        return was;
    }

    /**
     * 181 calls, which change the works. What no call reads shows here: the pass, the ticks of the state, the corners and
     * the limits of the coolers.
     */
    static Map<String, Long> later(ColdWorks x) {
        Map<String, Long> all = new LinkedHashMap<>();
        all.put("start()", (long) x.start());
        ticks("first", 5, x, all);
        all.put("high()", (long) x.high());
        all.put("low()", (long) x.low());
        ticks("then", 3, x, all);
        all.put("trip()", (long) x.trip());
        ticks("tripped", 3, x, all);
        all.put("reset()", (long) x.reset());
        all.put("start() again", (long) x.start());
        ticks("again", 4, x, all);
        for (int cooler = 0; cooler < 6; cooler++) {
            all.put("cold(" + cooler + ", 17)", (long) x.cold(cooler, 17));
            all.put("cold(" + cooler + ", 40)", (long) x.cold(cooler, 40));
        }
        all.put("cooler()", (long) x.cooler(0, 0, 0, 0, 0, 0, 0));
        all.put("order()", (long) x.order(1, 9));
        all.put("deliver()", (long) x.deliver());
        all.put("back(1)", (long) x.back(1));
        now(x).forEach((call, answer) -> all.put(call + " in the end", answer));
        return all;
    }

    private static void ticks(String which, int n, ColdWorks x, Map<String, Long> all) {
        for (int i = 1; i <= n; i++) {
            all.put("tick(1), " + which + " " + i, (long) x.tick(1));
            all.put("side(1, 0), " + which + " " + i, (long) x.side(1, 0));
            all.put("valves, " + which + " " + i, x.valve(0) + 10L * x.valve(1) + 100L * x.valve(2));
        }
    }
}
