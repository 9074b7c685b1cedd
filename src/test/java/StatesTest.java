/** Promises 8 (start), 9 (low), 10 (high), 11 (trip), 12 (reset), 13 (tick) and 15 (valve). */
public final class StatesTest {
    private static final int MIN = Integer.MIN_VALUE, MAX = Integer.MAX_VALUE;

    public static void main(String[] args) {
        startOpens();
        startRefused();
        startWithoutAnAdsorber();
        startWithAFullTank();
        lowAndHigh();
        lowAndHighRefused();
        everySecondTickOfLow();
        tripFromEachState();
        tripShutsValveByValve();
        resetRefused();
        resetAndStartAgain();
        coolingBecomesRunning();
        tickRefused();
        tickTellsWhatWasMade();
        fullTankTrips();
        fullTankTripsWithoutLiquid();
        ticksOfATripInsideOneCall();
        twoCausesOneTrip();
        valveRefused();
        Due.end("StatesTest");
    }

    private static void valves(String when, ColdWorks x, int feed, int press, int vent) {
        Due.is(when + ": valve(0)", x.valve(0), feed);
        Due.is(when + ": valve(1)", x.valve(1), press);
        Due.is(when + ": valve(2)", x.valve(2), vent);
    }

    private static void startOpens() {
        ColdWorks x = new ColdWorks();
        valves("STOPPED", x, 0, 0, 0);
        Due.is("start()", x.start(), 1);
        Due.is("count(0)", x.count(0), 1);
        valves("COOLING", x, 1, 1, 0);
        ColdWorks y = Setups.running();
        valves("RUNNING", y, 1, 1, 0);
        y.low();
        valves("LOW", y, 1, 1, 0);
    }

    private static void startRefused() {
        ColdWorks cooling = Setups.strong();
        cooling.start();
        ColdWorks[] all = {cooling, Setups.running(), Setups.low(), Setups.tripped()};
        for (int state = 1; state <= 4; state++) {
            Due.is("in state " + state + ": start()", all[state - 1].start(), -2);
            Due.is("in state " + state + ": count(0)", all[state - 1].count(0), state);
        }
    }

    private static void startWithoutAnAdsorber() {
        ColdWorks x = Setups.idle(5, 30);
        x.tick(10);
        Due.is("none is ready: count(0)", x.count(0), 4);
        Setups.settle(x);
        Due.is("none is on: start()", x.start(), -2);
        Due.is("none is on: count(0)", x.count(0), 0);
        valves("none is on", x, 0, 0, 0);
        // The first was heated behind tick 5: it is ready behind tick 65.
        x.tick(51);
        Due.is("tick 64: start()", x.start(), -2);
        x.tick(1);
        Due.is("tick 65: start()", x.start(), 1);
    }

    private static void startWithAFullTank() {
        ColdWorks x = Setups.spilled();
        Due.is("full: count(1)", x.count(1), 10);
        Due.is("full: start()", x.start(), -2);
        x.set(3, 11);
        Due.is("room for one: start()", x.start(), 1);
    }

    private static void lowAndHigh() {
        ColdWorks x = Setups.running();
        Due.is("low()", x.low(), 3);
        Due.is("count(0)", x.count(0), 3);
        Due.is("high()", x.high(), 2);
        Due.is("count(0)", x.count(0), 2);
    }

    private static void lowAndHighRefused() {
        ColdWorks cooling = Setups.strong();
        cooling.start();
        ColdWorks[] all = {Setups.strong(), cooling, Setups.running(), Setups.low(), Setups.tripped()};
        for (int state = 0; state <= 4; state++) {
            ColdWorks x = all[state];
            if (state != 2) {
                Due.is("in state " + state + ": low()", x.low(), -2);
            }
            if (state != 3) {
                Due.is("in state " + state + ": high()", x.high(), -2);
            }
            Due.is("in state " + state + ": count(0)", x.count(0), state);
        }
    }

    private static void everySecondTickOfLow() {
        ColdWorks x = Setups.low();
        int[] made = {16, 0, 16, 0, 16};
        for (int i = 0; i < made.length; i++) {
            Due.is("LOW, tick " + (i + 1), x.tick(1), made[i]);
        }
        Due.is("heat(3)", x.heat(3), 5);
        Due.is("only flows load", x.adsorber(0, 1), 5);
        x.high();
        Due.is("RUNNING again", x.tick(2), 32);
        x.low();
        Due.is("LOW again: the first tick", x.tick(1), 16);
        Due.is("LOW again: the second tick", x.tick(1), 0);
        x.high();
        x.low();
        Due.is("LOW once more: the first tick", x.tick(1), 16);
        Due.is("count(7)", x.count(7), 12);
    }

    private static void tripFromEachState() {
        ColdWorks cooling = Setups.strong();
        cooling.start();
        ColdWorks[] all = {cooling, Setups.running(), Setups.low()};
        for (ColdWorks x : all) {
            String state = "from state " + x.count(0) + ": ";
            Due.is(state + "trip()", x.trip(), 4);
            Due.is(state + "count(0)", x.count(0), 4);
            Due.is(state + "count(8)", x.count(8), 1);
            valves(state + "no tick yet", x, 1, 1, 0);
            Due.is(state + "trip() again", x.trip(), -2);
            Due.is(state + "count(8)", x.count(8), 1);
        }
        ColdWorks stopped = new ColdWorks();
        Due.is("from STOPPED: trip()", stopped.trip(), -2);
        Due.is("from STOPPED: count(0)", stopped.count(0), 0);
        Due.is("from STOPPED: count(8)", stopped.count(8), 0);
    }

    private static void tripShutsValveByValve() {
        ColdWorks x = Setups.low();
        x.tick(1);
        x.trip();
        int[][] after = {{0, 1, 0}, {0, 0, 0}, {0, 0, 1}, {0, 0, 1}};
        for (int i = 0; i < after.length; i++) {
            Due.is("TRIPPED, tick " + (i + 1), x.tick(1), 0);
            valves("TRIPPED, tick " + (i + 1), x, after[i][0], after[i][1], after[i][2]);
            Due.is("TRIPPED, trip()", x.trip(), -2);
        }
        Due.is("no gas goes", x.heat(3), 3);
        Due.is("count(0)", x.count(0), 4);
    }

    private static void resetRefused() {
        ColdWorks cooling = Setups.strong();
        cooling.start();
        ColdWorks[] all = {Setups.strong(), cooling, Setups.running(), Setups.low()};
        for (int state = 0; state <= 3; state++) {
            Due.is("in state " + state + ": reset()", all[state].reset(), -2);
            Due.is("in state " + state + ": count(0)", all[state].count(0), state);
        }
        ColdWorks x = Setups.tripped();
        for (int tick = 0; tick < 3; tick++) {
            Due.is("TRIPPED behind " + tick + " ticks: reset()", x.reset(), -2);
            Due.is("TRIPPED behind " + tick + " ticks: count(0)", x.count(0), 4);
            x.tick(1);
        }
        Due.is("TRIPPED behind 3 ticks: reset()", x.reset(), 0);
        Due.is("reset() again", x.reset(), -2);
    }

    private static void resetAndStartAgain() {
        ColdWorks x = Setups.tripped();
        x.tick(10);
        Due.is("reset()", x.reset(), 0);
        Due.is("count(0)", x.count(0), 0);
        valves("STOPPED", x, 0, 0, 0);
        Due.is("STOPPED: tick(5)", x.tick(5), 0);
        Due.is("STOPPED: no gas goes", x.heat(3), 2);
        Due.is("start() again", x.start(), 1);
        valves("COOLING", x, 1, 1, 0);
        x.trip();
        x.tick(1);
        valves("the second trip, tick 1", x, 0, 1, 0);
        Due.is("the second trip: reset()", x.reset(), -2);
        Due.is("count(8)", x.count(8), 2);
    }

    private static void coolingBecomesRunning() {
        ColdWorks x = Setups.strong();
        x.start();
        x.tick(1);
        Due.is("nothing made yet: count(0)", x.count(0), 1);
        x.tick(1);
        Due.is("made first: count(0)", x.count(0), 2);
        x.set(0, ColdWorks.NONE);
        x.set(2, 300);
        x.tick(3);
        Due.is("nothing made any more: count(0)", x.count(0), 2);
        x.trip();
        Setups.settle(x);
        x.start();
        x.tick(1);
        Due.is("a new start: count(0)", x.count(0), 1);
    }

    private static void tickRefused() {
        ColdWorks x = Setups.running();
        for (int n : new int[] {0, -1, 61, MIN, MAX}) {
            Due.is("tick(" + n + ")", x.tick(n), -1);
        }
        Due.is("count(7)", x.count(7), 2);
        Due.is("count(1)", x.count(1), 15);
        Due.is("tick(60) of STOPPED", new ColdWorks().tick(60), 0);
    }

    private static void tickTellsWhatWasMade() {
        ColdWorks x = Setups.strong();
        x.start();
        Due.is("tick(5)", x.tick(5), 15 + 3 * 16);
        Due.is("count(1)", x.count(1), 63);
        Due.is("tick(10)", x.tick(10), 160);
        Due.is("count(7)", x.count(7), 15);
        Due.is("tick(1)", x.tick(1), 16);
        Due.is("count(0)", x.count(0), 2);
    }

    private static void fullTankTrips() {
        ColdWorks x = Setups.running();
        x.set(3, 32);
        x.tick(1);
        Due.is("31 of 32: count(0)", x.count(0), 2);
        Due.is("16 more", x.tick(1), 16);
        Due.is("full: count(0)", x.count(0), 4);
        Due.is("full: count(1)", x.count(1), 32);
        Due.is("full: count(2)", x.count(2), 15);
        Due.is("full: count(8)", x.count(8), 1);
        valves("the tick that trips is not one of TRIPPED", x, 1, 1, 0);
        ColdWorks y = Setups.running();
        y.set(3, 31);
        y.tick(1);
        Due.is("just full: count(0)", y.count(0), 4);
        Due.is("just full: count(2)", y.count(2), 0);
    }

    private static void fullTankTripsWithoutLiquid() {
        ColdWorks x = Setups.running();
        x.set(3, 15);
        Due.is("full by its room: count(0)", x.count(0), 2);
        x.set(0, ColdWorks.NONE);
        x.set(2, 300);
        x.set(3, 31);
        x.tick(1);
        x.set(3, x.count(1));
        Due.is("a flow of nothing", x.tick(1), 0);
        Due.is("behind a flow it trips: count(0)", x.count(0), 4);
        ColdWorks y = Setups.low();
        y.tick(1);
        y.set(3, 31);
        y.tick(1);
        Due.is("LOW, a tick without a flow: count(0)", y.count(0), 3);
        Due.is("LOW, a tick with one", y.tick(1), 16);
        Due.is("LOW, behind it: count(0)", y.count(0), 4);
    }

    private static void ticksOfATripInsideOneCall() {
        ColdWorks x = Setups.running();
        x.set(3, 20);
        Due.is("tick(3): one flow, two of TRIPPED", x.tick(3), 16);
        valves("two ticks of TRIPPED", x, 0, 0, 0);
        Due.is("reset()", x.reset(), -2);
        x.tick(1);
        valves("three ticks of TRIPPED", x, 0, 0, 1);
        Due.is("heat(3)", x.heat(3), 3);
        Due.is("reset()", x.reset(), 0);
    }

    /** The tank is full in the tick in which both adsorbers are at their end. */
    private static void twoCausesOneTrip() {
        ColdWorks x = Setups.strong();
        x.set(4, 5);
        x.set(5, 30);
        x.set(3, 15 + 8 * 16);
        x.start();
        x.tick(9);
        Due.is("ahead of it: count(0)", x.count(0), 2);
        x.tick(1);
        Due.is("behind it: count(0)", x.count(0), 4);
        Due.is("behind it: count(1)", x.count(1), 143);
        Due.is("behind it: adsorber(1, 0)", x.adsorber(1, 0), 2);
        Due.is("behind it: count(8)", x.count(8), 1);
    }

    private static void valveRefused() {
        ColdWorks x = Setups.running();
        for (int v : new int[] {-1, 3, MIN, MAX}) {
            Due.is("valve(" + v + ")", x.valve(v), -1);
        }
    }
}
