/** What comes first, second, third; whose turn it is; and what comes around again. */
public final class TurnsTest {
    public static void main(String[] args) {
        valvesByHand();
        valvesByAFullTank();
        valvesByAnAdsorber();
        valvesOfATripBehindATrip();
        flowsOfLow();
        lowFromTheFirstOnAgain();
        adsorbersOfEachFullAndHeat();
        adsorbersTurnByTurn();
        fullSetAroundTheLoad();
        fullIsLookedAtInFlowsAlone();
        heatSetAroundTheTicks();
        anAdsorberFullWithTheTank();
        cellsMadeAndMadeAgain();
        theLastOf512Calls();
        Due.end("TurnsTest");
    }

    /** More ticks than one call takes. */
    private static void ticks(ColdWorks x, int n) {
        int left = n;
        while (left > 0) {
            int some = Math.min(left, 60);
            x.tick(some);
            left -= some;
        }
    }

    /** "In the first TICK of that FEED shuts, in the second PRESS goes off, in the third VENT opens" */
    private static void valves(String when, ColdWorks x, int ticksOfTripped) {
        Due.is(when + ", ticks " + ticksOfTripped + ": count(0)", x.count(0), 4);
        Due.is(when + ", ticks " + ticksOfTripped + ": FEED", x.valve(0), ticksOfTripped < 1 ? 1 : 0);
        Due.is(when + ", ticks " + ticksOfTripped + ": PRESS", x.valve(1), ticksOfTripped < 2 ? 1 : 0);
        Due.is(when + ", ticks " + ticksOfTripped + ": VENT", x.valve(2), ticksOfTripped < 3 ? 0 : 1);
    }

    private static void reset(String when, ColdWorks x, int ticksOfTripped) {
        Due.is(when + ", ticks " + ticksOfTripped + ": reset()", x.reset(), ticksOfTripped < 3 ? -2 : 0);
        if (ticksOfTripped >= 3) {
            Due.is(when + ", reset: count(0)", x.count(0), 0);
            for (int v = 0; v < 3; v++) {
                Due.is(when + ", reset: valve(" + v + ")", x.valve(v), 0);
            }
        }
    }

    private static void valvesByHand() {
        for (int state = 1; state <= 3; state++) {
            for (int n : new int[] {0, 1, 2, 3, 4, 5, 60}) {
                ColdWorks x = Setups.busy(state);
                x.trip();
                ticks(x, n);
                valves("from state " + state, x, n);
                reset("from state " + state, x, n);
            }
        }
    }

    /** "(TICKS of TRIPPED are counted from the one behind.)": the tick that trips is the first of tick(n + 1). */
    private static void valvesByAFullTank() {
        for (int n = 0; n <= 5; n++) {
            ColdWorks x = Setups.running();
            x.set(3, 31);
            x.tick(n + 1);
            valves("a full tank", x, n);
            reset("a full tank", x, n);
        }
    }

    private static void valvesByAnAdsorber() {
        for (int n = 0; n <= 5; n++) {
            ColdWorks x = Setups.idle(5, 30);
            x.tick(10 + n);
            valves("an adsorber", x, n);
            Due.is("an adsorber: heat(3)", x.heat(3), 10);
            reset("an adsorber", x, n);
        }
    }

    private static void valvesOfATripBehindATrip() {
        ColdWorks x = Setups.running();
        for (int trips = 1; trips <= 4; trips++) {
            x.trip();
            for (int n = 0; n <= 3; n++) {
                valves("trip " + trips, x, n);
                reset("trip " + trips, x, n);
                if (n < 3) {
                    x.tick(1);
                }
            }
            Due.is("count(8)", x.count(8), trips);
            Due.is("start()", x.start(), 1);
        }
    }

    /** "of LOW each second one from the first on", in one call and tick by tick. */
    private static void flowsOfLow() {
        for (int n = 1; n <= 60; n++) {
            ColdWorks x = Setups.low();
            x.set(3, 5000);
            x.set(4, 60);
            Due.is("LOW: tick(" + n + ")", x.tick(n), 16 * ((n + 1) / 2));
            Due.is("LOW, " + n + " ticks: heat(3)", x.heat(3), 2 + (n + 1) / 2);
            Due.is("LOW, " + n + " ticks: the next one", x.tick(1), n % 2 == 0 ? 16 : 0);
        }
    }

    private static void lowFromTheFirstOnAgain() {
        for (int n = 1; n <= 4; n++) {
            ColdWorks x = Setups.low();
            x.tick(n);
            x.high();
            Due.is("LOW for " + n + ", then RUNNING: tick(1)", x.tick(1), 16);
            Due.is("LOW for " + n + ", then RUNNING: tick(1) again", x.tick(1), 16);
            x.low();
            Due.is("LOW for " + n + ", then LOW anew: tick(1)", x.tick(1), 16);
            Due.is("LOW for " + n + ", then LOW anew: tick(1) again", x.tick(1), 0);
        }
    }

    private static void facts(String when, ColdWorks x, int a, int how, int load, int ticks) {
        Due.is(when + ": adsorber(" + a + ", 0)", x.adsorber(a, 0), how);
        Due.is(when + ": adsorber(" + a + ", 1)", x.adsorber(a, 1), load);
        Due.is(when + ": adsorber(" + a + ", 2)", x.adsorber(a, 2), ticks);
    }

    /**
     * "FULL (5 .. 60 ..", "HEAT (1 .. 30 ..", "the other one, if READY, is ON; if it is not: TRIPPED, none is ON". What is
     * heated behind flow FULL is ready, ahead of the flow, in tick FULL + 2 HEAT; it is wanted in tick 2 FULL.
     */
    private static void adsorbersOfEachFullAndHeat() {
        for (int full = 5; full <= 60; full++) {
            for (int heat = 1; heat <= 30; heat++) {
                String when = "FULL " + full + ", HEAT " + heat;
                ColdWorks x = Setups.idle(full, heat);
                ticks(x, full - 1);
                facts(when + ", a flow short", x, 0, 1, full - 1, 0);
                facts(when + ", a flow short", x, 1, 0, 0, 0);
                x.tick(1);
                facts(when + ", full", x, 0, 2, full, 0);
                facts(when + ", full", x, 1, 1, 0, 0);
                ticks(x, full - 1);
                facts(when + ", a flow short again", x, 1, 1, full - 1, 0);
                Due.is(when + ": count(0)", x.count(0), 1);
                x.tick(1);
                facts(when + ", full again", x, 1, 2, full, 0);
                if (2 * heat <= full) {
                    facts(when + ", just ready", x, 0, 1, 0, 0);
                    Due.is(when + ": count(0)", x.count(0), 1);
                } else {
                    notReady(when, x, full, heat);
                }
            }
        }
    }

    private static void notReady(String when, ColdWorks x, int full, int heat) {
        boolean heated = full < heat;
        facts(when + ", not ready", x, 0, heated ? 2 : 3, full, heated ? full : full - heat);
        Due.is(when + ": TRIPPED", x.count(0), 4);
        Due.is(when + ": count(8)", x.count(8), 1);
        valves(when, x, 0);
        ticks(x, 2 * heat - full - 1);
        facts(when + ", a tick short", x, 0, 3, full, heat - 1);
        x.tick(1);
        facts(when + ", ready, and on", x, 0, 1, 0, 0);
        Due.is(when + ": TRIPPED still", x.count(0), 4);
        ticks(x, full);
        facts(when + ", the other one is ready, and not on", x, 1, 0, 0, 0);
    }

    /** "adsorbers in turns, one always ready" */
    private static void adsorbersTurnByTurn() {
        ColdWorks x = Setups.idle(5, 2);
        for (int turn = 0; turn < 24; turn++) {
            int on = turn % 2;
            facts("turn " + turn, x, on, 1, 0, 0);
            x.tick(4);
            facts("turn " + turn + ", four flows on", x, on, 1, 4, 0);
            facts("turn " + turn + ", four flows on", x, 1 - on, 0, 0, 0);
            x.tick(1);
            facts("turn " + turn + ", five flows on", x, on, 2, 5, 0);
        }
        Due.is("count(8)", x.count(8), 0);
        Due.is("heat(3)", x.heat(3), 120);
    }

    /** "When its LOAD comes to FULL .., or is above it": ten flows, then FULL is set, then one flow more. */
    private static void fullSetAroundTheLoad() {
        int[][] fullAndHow = {{5, 2}, {9, 2}, {10, 2}, {11, 2}, {12, 1}, {60, 1}};
        for (int[] c : fullAndHow) {
            ColdWorks x = Setups.idle(20, 6);
            x.tick(10);
            x.set(4, c[0]);
            String when = "10 loaded, FULL " + c[0];
            facts(when, x, 0, 1, 10, 0);
            x.tick(1);
            facts(when + ", a flow on", x, 0, c[1], 11, 0);
            facts(when + ", a flow on", x, 1, c[1] == 2 ? 1 : 0, 0, 0);
        }
    }

    /** "Each TICK of FLOW LOADS the one that is ON": without a flow an adsorber stays on, however low FULL is set. */
    private static void fullIsLookedAtInFlowsAlone() {
        ColdWorks x = Setups.idle(20, 6);
        x.tick(10);
        x.trip();
        x.set(4, 5);
        x.tick(3);
        facts("TRIPPED", x, 0, 1, 10, 0);
        x.reset();
        x.tick(3);
        facts("STOPPED", x, 0, 1, 10, 0);
        Due.is("start()", x.start(), 1);
        facts("COOLING, no flow yet", x, 0, 1, 10, 0);
        x.tick(1);
        facts("COOLING, a flow on", x, 0, 2, 11, 0);
        facts("COOLING, a flow on", x, 1, 1, 0, 0);
    }

    /** "HEAT (1 .. 30 ..) TICKS HEATED, as many again COOLED": ten ticks, then HEAT is set, then one tick more. */
    private static void heatSetAroundTheTicks() {
        int[][] heatHowTicks = {{1, 3, 0}, {9, 3, 0}, {10, 3, 0}, {11, 3, 0}, {12, 2, 11}, {30, 2, 11}};
        for (int[] c : heatHowTicks) {
            ColdWorks x = Setups.idle(20, 30);
            x.tick(30);
            facts("HEATED for 10", x, 0, 2, 20, 10);
            x.set(5, c[0]);
            x.tick(1);
            facts("HEATED for 10, HEAT " + c[0] + ", a tick on", x, 0, c[1], 20, c[2]);
        }
        int[][] ofCooled = {{1, 0, 0, 0}, {4, 0, 0, 0}, {5, 0, 0, 0}, {6, 3, 20, 5}, {30, 3, 20, 5}};
        for (int[] c : ofCooled) {
            ColdWorks x = Setups.idle(20, 6);
            x.tick(30);
            facts("COOLED for 4", x, 0, 3, 20, 4);
            x.set(5, c[0]);
            x.tick(1);
            facts("COOLED for 4, HEAT " + c[0] + ", a tick on", x, 0, c[1], c[2], c[3]);
        }
    }

    /** The tank trips in the flow in which an adsorber is full and the other one is ready: that one is on. */
    private static void anAdsorberFullWithTheTank() {
        ColdWorks x = Setups.strong();
        x.set(4, 5);
        x.set(3, 15 + 3 * 16);
        x.start();
        x.tick(5);
        Due.is("count(0)", x.count(0), 4);
        Due.is("count(8)", x.count(8), 1);
        facts("full with the tank", x, 0, 2, 5, 0);
        facts("full with the tank", x, 1, 1, 0, 0);
        valves("full with the tank", x, 0);
    }

    /** "THE EXCHANGER becomes one of n CELLS .., all at 300": nothing of a longer one is left in it. */
    private static void cellsMadeAndMadeAgain() {
        ColdWorks x = new ColdWorks();
        for (int n : new int[] {8, 1, 8, 2, 7, 3}) {
            Due.is("cells(" + n + ", 50)", x.cells(n, 50), 1);
            for (int cell = 0; cell < n; cell++) {
                Due.is(n + " cells: side(0, " + cell + ")", x.side(0, cell), 300);
                Due.is(n + " cells: side(1, " + cell + ")", x.side(1, cell), 300);
            }
            for (int what = 0; what < 4; what++) {
                Due.is(n + " cells: heat(" + what + ")", x.heat(what), 0);
            }
            x.set(2, 7);
            x.start();
            x.tick(9);
            Due.is(n + " cells: heat(0)", x.heat(0), 63);
            Due.is(n + " cells: heat(3)", x.heat(3), 9);
            x.trip();
            Setups.settle(x);
        }
    }

    /** "An object is used for at most 512 calls": the last of them is answered like the first. */
    private static void theLastOf512Calls() {
        ColdWorks asked = new ColdWorks();
        asked.cooler(2, 50, 50, 50, 50, 50, 60);
        for (int i = 0; i < 510; i++) {
            Due.is("cold(0, 40)", asked.cold(0, 40), 60);
        }
        Due.is("the 512th call: trace()", asked.trace(), 510L * 111);
        ColdWorks led = new ColdWorks();
        led.set(2, 400);
        led.set(5, 1);
        led.start();
        for (int i = 0; i < 507; i++) {
            Due.is("tick(60)", led.tick(60), 0);
        }
        Due.is("the 511th call: count(7)", led.count(7), 507 * 60);
        Due.is("the 512th call: heat(0)", led.heat(0), 507L * 60 * 400);
    }
}
