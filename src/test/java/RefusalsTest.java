import java.util.function.Supplier;
import java.util.function.ToLongFunction;

/**
 * "Refused, and nothing changes, the first of these: BAD (a number is not as told, or there is no such thing), STATE (as
 * told), FULL." Each call is refused in each state in which it can be, on works in which a change would show.
 */
public final class RefusalsTest {
    private static final int MIN = Integer.MIN_VALUE, MAX = Integer.MAX_VALUE;
    /** Numbers that no call takes anywhere, but for what is not looked at. */
    private static final int[] FAR = {MIN, MIN + 1, -1000000, -10, -8, -3, -2, -1, 5001, 65536, MAX - 1, MAX};

    public static void main(String[] args) {
        aChangeWouldShow();
        for (int state = 0; state <= 4; state++) {
            theStateIsThere(state);
            badCooler(state);
            badCold(state);
            badCells(state);
            badSet(state);
            badReadings(state);
            badTick(state);
            badOrder(state);
            badBack(state);
            badLose(state);
            badSplit(state);
            callsOfAnotherState(state);
        }
        resetAheadOfTheVent();
        startWithoutAnAdsorber();
        startWithAFullTank();
        deliverBehindDayNine();
        backBeyondTheBag();
        backBeyondTheRoom();
        fullOfCoolers();
        fullOfOrders();
        badIsAheadOfState();
        badIsAheadOfFull();
        Due.end("RefusalsTest");
    }

    private static void refused(int state, String call, ToLongFunction<ColdWorks> ask, long due) {
        Twins.refused("in state " + state + ": " + call, () -> Setups.busy(state), ask, due);
    }

    private static void bad(int state, String call, ToLongFunction<ColdWorks> ask) {
        refused(state, call, ask, ColdWorks.BAD);
    }

    private static void theStateIsThere(int state) {
        Due.is("busy works, count(0)", Setups.busy(state).count(0), state);
    }

    private static void changes(String call, int state, ToLongFunction<ColdWorks> ask) {
        Due.is(call + " would show", Twins.changes(() -> Setups.busy(state), ask) ? 1 : 0, 1);
    }

    /** Calls that are taken, as small as they come: if the twins did not see these, their silence would prove nothing. */
    private static void aChangeWouldShow() {
        changes("a cooler", 0, x -> x.cooler(0, 0, 0, 0, 0, 0, 0));
        changes("a cold", 2, x -> x.cold(1, 0));
        changes("another pass", 0, x -> x.cells(2, 29));
        changes("another cooler at the end", 2, x -> x.set(0, 2));
        changes("another drop", 2, x -> x.set(1, 39));
        changes("another inlet", 2, x -> x.set(2, 61));
        changes("another room", 2, x -> x.set(3, 301));
        changes("another FULL", 2, x -> x.set(4, 31));
        changes("another HEAT", 2, x -> x.set(5, 10));
        changes("a start", 0, x -> x.start());
        changes("a low", 2, x -> x.low());
        changes("a high", 3, x -> x.high());
        changes("a low and a high", 3, x -> x.high() + x.low());
        changes("a trip", 1, x -> x.trip());
        changes("a tick", 0, x -> x.tick(1));
        changes("a tick of TRIPPED", 4, x -> x.tick(1));
        changes("an order", 0, x -> x.order(1, 9));
        changes("a day", 0, x -> x.deliver());
        changes("a back", 0, x -> x.back(1));
        changes("a meter read again", 0, x -> x.lose(1, false));
        changes("a meter lost", 0, x -> x.lose(2, true));
    }

    private static void badCooler(int state) {
        for (int kind : FAR) {
            bad(state, "cooler of kind " + kind, x -> x.cooler(kind, 0, 0, 0, 0, 0, 0));
        }
        bad(state, "cooler of kind 3", x -> x.cooler(3, 0, 0, 0, 0, 0, 0));
        for (int kind = 1; kind <= 2; kind++) {
            badCorners(state, kind);
        }
        for (int limit : FAR) {
            bad(state, "limit " + limit, x -> x.cooler(2, 0, 0, 0, 0, 0, limit));
        }
        bad(state, "limit 61", x -> x.cooler(2, 0, 0, 0, 0, 0, 61));
    }

    /** Each corner in turn is -1, 51, one below the one before it, one above the one behind it, or far outside. */
    private static void badCorners(int state, int kind) {
        for (int at = 0; at < 5; at++) {
            badCorner(state, kind, at, -1, new int[] {0, 0, 0, 0, 0});
            badCorner(state, kind, at, 51, new int[] {50, 50, 50, 50, 50});
            if (at > 0) {
                badCorner(state, kind, at, 24, new int[] {25, 25, 25, 25, 25});
            }
            if (at < 4) {
                badCorner(state, kind, at, 26, new int[] {25, 25, 25, 25, 25});
            }
            for (int far : FAR) {
                badCorner(state, kind, at, far, new int[] {25, 25, 25, 25, 25});
            }
        }
        bad(state, "corners of -1", x -> x.cooler(kind, -1, -1, -1, -1, -1, 9));
        bad(state, "corners of 51", x -> x.cooler(kind, 51, 51, 51, 51, 51, 9));
        bad(state, "corners of the least int", x -> x.cooler(kind, MIN, MIN, MIN, MIN, MIN, 9));
        bad(state, "corners of the greatest int", x -> x.cooler(kind, MAX, MAX, MAX, MAX, MAX, 9));
        bad(state, "falling corners", x -> x.cooler(kind, 40, 30, 20, 10, 0, 9));
    }

    private static void badCorner(int state, int kind, int at, int v, int[] corners) {
        corners[at] = v;
        bad(state, "kind " + kind + ", corner " + at + " is " + v,
            x -> x.cooler(kind, corners[0], corners[1], corners[2], corners[3], corners[4], 9));
    }

    private static void badCold(int state) {
        for (int far : FAR) {
            bad(state, "cold(" + far + ", 7)", x -> x.cold(far, 7));
            bad(state, "cold(2, " + far + ")", x -> x.cold(2, far));
            bad(state, "cold(" + far + ", " + far + ")", x -> x.cold(far, far));
        }
        for (int cooler = 3; cooler <= 7; cooler++) {
            int c = cooler;
            bad(state, "three coolers: cold(" + c + ", 7)", x -> x.cold(c, 7));
        }
        bad(state, "NONE is no cooler: cold(-9, 7)", x -> x.cold(ColdWorks.NONE, 7));
        bad(state, "cold(2, 41)", x -> x.cold(2, 41));
    }

    private static void badCells(int state) {
        for (int far : FAR) {
            bad(state, "cells(" + far + ", 7)", x -> x.cells(far, 7));
            bad(state, "cells(7, " + far + ")", x -> x.cells(7, far));
        }
        bad(state, "cells(0, 7)", x -> x.cells(0, 7));
        bad(state, "cells(9, 7)", x -> x.cells(9, 7));
        bad(state, "cells(7, 0)", x -> x.cells(7, 0));
        bad(state, "cells(7, 51)", x -> x.cells(7, 51));
        bad(state, "cells(0, 0)", x -> x.cells(0, 0));
    }

    private static void badSet(int state) {
        for (int far : FAR) {
            bad(state, "set(" + far + ", 10)", x -> x.set(far, 10));
            for (int what = 0; what <= 5; what++) {
                int w = what;
                bad(state, "set(" + w + ", " + far + ")", x -> x.set(w, far));
            }
        }
        int[][] next = {{6, 10}, {0, 3}, {0, 5}, {0, 6}, {1, 41}, {2, 401}, {3, 9}, {4, 4}, {4, 61}, {5, 0}, {5, 31}};
        for (int[] n : next) {
            bad(state, "set(" + n[0] + ", " + n[1] + ")", x -> x.set(n[0], n[1]));
        }
        for (int what = 1; what <= 5; what++) {
            int w = what;
            bad(state, "NONE is for the cooler alone: set(" + w + ", -9)", x -> x.set(w, ColdWorks.NONE));
        }
        if (state != ColdWorks.COOLING) {
            int has = Setups.busy(state).count(1);
            bad(state, "a room below what the tank has", x -> x.set(3, has - 1));
        }
    }

    private static void badReadings(int state) {
        for (int far : FAR) {
            badReading(state, far);
        }
        bad(state, "side(2, 0)", x -> x.side(2, 0));
        for (int cell = 2; cell <= 8; cell++) {
            int c = cell;
            bad(state, "two cells: side(0, " + c + ")", x -> x.side(0, c));
            bad(state, "two cells: side(1, " + c + ")", x -> x.side(1, c));
        }
        for (int order = 3; order <= 8; order++) {
            int o = order;
            bad(state, "three orders: about(" + o + ", 0)", x -> x.about(o, 0));
        }
        bad(state, "about(0, 3)", x -> x.about(0, 3));
        bad(state, "heat(4)", x -> x.heat(4));
        bad(state, "adsorber(2, 0)", x -> x.adsorber(2, 0));
        bad(state, "adsorber(0, 3)", x -> x.adsorber(0, 3));
        bad(state, "adsorber(1, 3)", x -> x.adsorber(1, 3));
        bad(state, "valve(3)", x -> x.valve(3));
        bad(state, "meter(4)", x -> x.meter(4));
        bad(state, "balance(4)", x -> x.balance(4));
        bad(state, "count(10)", x -> x.count(10));
    }

    private static void badReading(int state, int far) {
        bad(state, "side(" + far + ", 0)", x -> x.side(far, 0));
        bad(state, "side(0, " + far + ")", x -> x.side(0, far));
        bad(state, "side(1, " + far + ")", x -> x.side(1, far));
        bad(state, "heat(" + far + ")", x -> x.heat(far));
        bad(state, "adsorber(" + far + ", 0)", x -> x.adsorber(far, 0));
        bad(state, "adsorber(0, " + far + ")", x -> x.adsorber(0, far));
        bad(state, "adsorber(1, " + far + ")", x -> x.adsorber(1, far));
        bad(state, "valve(" + far + ")", x -> x.valve(far));
        bad(state, "about(" + far + ", 0)", x -> x.about(far, 0));
        bad(state, "about(0, " + far + ")", x -> x.about(0, far));
        bad(state, "meter(" + far + ")", x -> x.meter(far));
        bad(state, "balance(" + far + ")", x -> x.balance(far));
        bad(state, "count(" + far + ")", x -> x.count(far));
    }

    private static void badTick(int state) {
        for (int far : FAR) {
            bad(state, "tick(" + far + ")", x -> x.tick(far));
        }
        bad(state, "tick(0)", x -> x.tick(0));
        bad(state, "tick(61)", x -> x.tick(61));
    }

    private static void badOrder(int state) {
        for (int far : FAR) {
            bad(state, "order(" + far + ", 7)", x -> x.order(far, 7));
            bad(state, "order(7, " + far + ")", x -> x.order(7, far));
        }
        bad(state, "order(0, 7)", x -> x.order(0, 7));
        bad(state, "order(501, 7)", x -> x.order(501, 7));
        bad(state, "order(7, 10)", x -> x.order(7, 10));
        bad(state, "order(0, 10)", x -> x.order(0, 10));
    }

    private static void badBack(int state) {
        for (int n : new int[] {0, -1, -5, -9, -1000000, MIN + 1, MIN}) {
            bad(state, "back(" + n + ")", x -> x.back(n));
        }
    }

    private static void badLose(int state) {
        for (int far : FAR) {
            bad(state, "lose(" + far + ", true)", x -> x.lose(far, true));
            bad(state, "lose(" + far + ", false)", x -> x.lose(far, false));
        }
        bad(state, "lose(4, true)", x -> x.lose(4, true));
        bad(state, "lose(4, false)", x -> x.lose(4, false));
    }

    private static void badSplit(int state) {
        for (int far : FAR) {
            bad(state, "split(" + far + ", 1, 7, 7)", x -> x.split(far, 1, 7, 7));
            bad(state, "split(1, " + far + ", 7, 7)", x -> x.split(1, far, 7, 7));
            bad(state, "split(0, 1, " + far + ", 7)", x -> x.split(0, 1, far, 7));
            bad(state, "split(0, 1, 7, " + far + ")", x -> x.split(0, 1, 7, far));
        }
        int[][] next = {{3, 0, 7, 7}, {0, 3, 7, 7}, {-9, 0, 7, 7}, {0, -9, 7, 7}, {0, 1, 41, 7}, {0, 1, 7, 21}};
        for (int[] n : next) {
            bad(state, "split(" + n[0] + ", " + n[1] + ", " + n[2] + ", " + n[3] + ")",
                x -> x.split(n[0], n[1], n[2], n[3]));
        }
    }

    private static void callsOfAnotherState(int state) {
        if (state != ColdWorks.STOPPED) {
            refused(state, "cells(1, 1)", x -> x.cells(1, 1), ColdWorks.STATE);
            refused(state, "cells(8, 50)", x -> x.cells(8, 50), ColdWorks.STATE);
            refused(state, "start()", x -> x.start(), ColdWorks.STATE);
        }
        if (state != ColdWorks.RUNNING) {
            refused(state, "low()", x -> x.low(), ColdWorks.STATE);
        }
        if (state != ColdWorks.LOW) {
            refused(state, "high()", x -> x.high(), ColdWorks.STATE);
        }
        if (state == ColdWorks.STOPPED || state == ColdWorks.TRIPPED) {
            refused(state, "trip()", x -> x.trip(), ColdWorks.STATE);
        }
        // The busy works that are tripped have one tick of it behind them: the vent is not open yet.
        refused(state, "reset()", x -> x.reset(), ColdWorks.STATE);
    }

    private static ColdWorks tripped(int ticks) {
        ColdWorks x = Setups.busy(ColdWorks.RUNNING);
        x.trip();
        for (int i = 0; i < ticks; i++) {
            x.tick(1);
        }
        return x;
    }

    /** "STATE: it is another one, or VENT is not open yet." */
    private static void resetAheadOfTheVent() {
        for (int ticks = 0; ticks < 3; ticks++) {
            int n = ticks;
            Twins.refused("reset() behind " + n + " ticks", () -> tripped(n), x -> x.reset(), ColdWorks.STATE);
            Twins.refused("trip() behind " + n + " ticks", () -> tripped(n), x -> x.trip(), ColdWorks.STATE);
        }
        Twins.refused("trip() with the vent open", () -> tripped(3), x -> x.trip(), ColdWorks.STATE);
        Due.is("reset() behind 3 ticks", tripped(3).reset(), 0);
        Due.is("reset() behind 4 ticks", tripped(4).reset(), 0);
    }

    /** STOPPED, and both adsorbers are still heated. */
    private static ColdWorks noneOn() {
        ColdWorks x = Setups.idle(5, 30);
        x.tick(10);
        Setups.settle(x);
        return x;
    }

    /** "STATE: not STOPPED, no ADSORBER is ON, the TANK is full." */
    private static void startWithoutAnAdsorber() {
        Due.is("none is on: count(0)", noneOn().count(0), 0);
        Twins.refused("none is on: start()", RefusalsTest::noneOn, x -> x.start(), ColdWorks.STATE);
    }

    private static void startWithAFullTank() {
        Twins.refused("the tank is full: start()", Setups::spilled, x -> x.start(), ColdWorks.STATE);
        ColdWorks x = Setups.spilled();
        x.order(1, 0);
        x.deliver();
        Due.is("one below its room: start()", x.start(), 1);
    }

    private static ColdWorks behindDayNine(int state) {
        ColdWorks x = Setups.busy(state);
        x.order(1, 9);
        for (int day = 1; day <= 9; day++) {
            x.deliver();
        }
        x.order(1, 9);
        x.order(2, 0);
        return x;
    }

    /** "STATE: DAY 9 was." */
    private static void deliverBehindDayNine() {
        for (int state = 0; state <= 4; state++) {
            int s = state;
            Due.is("count(6)", behindDayNine(s).count(6), 10);
            Twins.refused("in state " + s + ": deliver()", () -> behindDayNine(s), x -> x.deliver(), ColdWorks.STATE);
        }
    }

    /** "STATE: the BAG has not so much": busy works have 5 in the bag, and room. */
    private static void backBeyondTheBag() {
        for (int state = 0; state <= 4; state++) {
            for (int n : new int[] {6, 7, 300, 301, 5000, MAX - 5, MAX}) {
                refused(state, "5 in the bag: back(" + n + ")", x -> x.back(n), ColdWorks.STATE);
            }
            Due.is("5 in the bag: back(5)", Setups.busy(state).back(5), Setups.busy(state).count(1) + 5);
        }
        for (int n : new int[] {1, 2, 300, MAX}) {
            Twins.refused("an empty bag: back(" + n + ")", Setups::running, x -> x.back(n), ColdWorks.STATE);
        }
    }

    private static ColdWorks roomFor(int state, int n) {
        ColdWorks x = Setups.busy(state);
        x.set(3, x.count(1) + n);
        return x;
    }

    /** "STATE: .. the TANK no room for it", with 5 in the bag. */
    private static void backBeyondTheRoom() {
        for (int state : new int[] {0, 2, 3, 4}) {
            for (int room = 0; room <= 4; room++) {
                int r = room;
                String when = "in state " + state + ", room for " + r + ": ";
                Supplier<ColdWorks> works = () -> roomFor(state, r);
                Twins.refused(when + "back(" + (r + 1) + ")", works, x -> x.back(r + 1), ColdWorks.STATE);
                Twins.refused(when + "back(5)", works, x -> x.back(5), ColdWorks.STATE);
                Twins.refused(when + "back(6)", works, x -> x.back(6), ColdWorks.STATE);
                Twins.refused(when + "back(MAX)", works, x -> x.back(MAX), ColdWorks.STATE);
            }
            Due.is("room for 5: back(5)", roomFor(state, 5).back(5), Setups.busy(state).count(1) + 5);
        }
        Twins.refused("COOLING, full: back(1)", RefusalsTest::coolingAndFull, x -> x.back(1), ColdWorks.STATE);
    }

    /** In COOLING the busy works have 6 in the tank, which is below the least room: 4 of the bag's 5 fill it. */
    private static ColdWorks coolingAndFull() {
        ColdWorks x = Setups.busy(ColdWorks.COOLING);
        x.set(3, 10);
        x.back(4);
        Due.is("COOLING, full: count(1)", x.count(1), 10);
        Due.is("COOLING, full: count(2)", x.count(2), 1);
        return x;
    }

    private static ColdWorks sixCoolers(int state) {
        ColdWorks x = Setups.busy(state);
        x.cooler(0, 0, 0, 0, 0, 0, 0);
        x.cooler(1, 1, 1, 1, 1, 1, 0);
        x.cooler(2, 1, 1, 1, 1, 1, 60);
        return x;
    }

    /** "COOLERS (6 at most)" */
    private static void fullOfCoolers() {
        for (int state = 0; state <= 4; state++) {
            int s = state;
            Due.is("count(3)", sixCoolers(s).count(3), 6);
            for (int kind = 0; kind <= 2; kind++) {
                int k = kind;
                Twins.refused("in state " + s + ": a seventh cooler of kind " + k, () -> sixCoolers(s),
                    x -> x.cooler(k, 1, 2, 3, 4, 5, 6), ColdWorks.FULL);
            }
        }
    }

    private static ColdWorks eightOrders(int state) {
        ColdWorks x = Setups.busy(state);
        for (int i = 0; i < 5; i++) {
            x.order(i + 1, i + 1);
        }
        return x;
    }

    /** "ORDERS (8 at most)": those that are delivered or missed are orders still. */
    private static void fullOfOrders() {
        for (int state = 0; state <= 4; state++) {
            int s = state;
            Due.is("count(5)", eightOrders(s).count(5), 8);
            for (int day : new int[] {0, 1, 9}) {
                Twins.refused("in state " + s + ": a ninth order", () -> eightOrders(s), x -> x.order(1, day),
                    ColdWorks.FULL);
            }
        }
    }

    private static void badIsAheadOfState() {
        for (int n : new int[] {0, -1, MIN}) {
            Twins.refused("an empty bag: back(" + n + ")", Setups::running, x -> x.back(n), ColdWorks.BAD);
            Twins.refused("a full tank: back(" + n + ")", Setups::spilled, x -> x.back(n), ColdWorks.BAD);
        }
        // Of cells(), badCells() has each wrong number in the four states that would be refused as well.
        for (int state = 1; state <= 4; state++) {
            refused(state, "cells(9, 20)", x -> x.cells(9, 20), ColdWorks.BAD);
            refused(state, "cells(4, 0)", x -> x.cells(4, 0), ColdWorks.BAD);
        }
    }

    private static void badIsAheadOfFull() {
        Supplier<ColdWorks> six = () -> sixCoolers(ColdWorks.STOPPED);
        Twins.refused("a seventh of kind -1", six, x -> x.cooler(-1, 0, 0, 0, 0, 0, 0), ColdWorks.BAD);
        Twins.refused("a seventh of kind 3", six, x -> x.cooler(3, 0, 0, 0, 0, 0, 0), ColdWorks.BAD);
        for (int kind = 1; kind <= 2; kind++) {
            int k = kind;
            Twins.refused("a seventh, corner 0 is -1", six, x -> x.cooler(k, -1, 0, 0, 0, 0, 0), ColdWorks.BAD);
            Twins.refused("a seventh, corner 4 is 51", six, x -> x.cooler(k, 0, 0, 0, 0, 51, 0), ColdWorks.BAD);
            Twins.refused("a seventh, a corner falls", six, x -> x.cooler(k, 0, 0, 1, 0, 1, 0), ColdWorks.BAD);
        }
        Twins.refused("a seventh, limit -1", six, x -> x.cooler(2, 0, 0, 0, 0, 0, -1), ColdWorks.BAD);
        Twins.refused("a seventh, limit 61", six, x -> x.cooler(2, 0, 0, 0, 0, 0, 61), ColdWorks.BAD);
        Twins.refused("a seventh throttle, its numbers are not looked at", six,
            x -> x.cooler(0, -1, MAX, 5, MIN, 51, 61), ColdWorks.FULL);
        Twins.refused("a seventh wheel, its limit is not looked at", six,
            x -> x.cooler(1, 0, 0, 0, 0, 0, 61), ColdWorks.FULL);
        Supplier<ColdWorks> eight = () -> eightOrders(ColdWorks.STOPPED);
        Twins.refused("a ninth order of 0", eight, x -> x.order(0, 0), ColdWorks.BAD);
        Twins.refused("a ninth order of 501", eight, x -> x.order(501, 0), ColdWorks.BAD);
        Twins.refused("a ninth order by day -1", eight, x -> x.order(1, -1), ColdWorks.BAD);
        Twins.refused("a ninth order by day 10", eight, x -> x.order(1, 10), ColdWorks.BAD);
    }
}
