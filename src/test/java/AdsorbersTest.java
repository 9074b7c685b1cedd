/** Promise 14 (adsorber), and the turns that it shows. */
public final class AdsorbersTest {
    private static final int MIN = Integer.MIN_VALUE, MAX = Integer.MAX_VALUE;

    public static void main(String[] args) {
        refused();
        loadedByFlowsAlone();
        turns();
        heatedThenCooled();
        shortestHeat();
        readyInTheTickItIsWanted();
        readyATickTooLate();
        noneIsReady();
        firstReadyIsOn();
        bothReadyAtOnce();
        fullSetBelowTheLoad();
        heatSetBelowTheTicks();
        Due.end("AdsorbersTest");
    }

    private static void is(String when, ColdWorks x, int a, int[] wanted) {
        for (int what = 0; what < wanted.length; what++) {
            Due.is(when + ": adsorber(" + a + ", " + what + ")", x.adsorber(a, what), wanted[what]);
        }
    }

    private static void refused() {
        ColdWorks x = new ColdWorks();
        for (int a : new int[] {-1, 2, MIN, MAX}) {
            for (int what = 0; what < 3; what++) {
                Due.is("adsorber(" + a + ", " + what + ")", x.adsorber(a, what), -1);
            }
        }
        for (int what : new int[] {-1, 3, MIN, MAX}) {
            Due.is("adsorber(0, " + what + ")", x.adsorber(0, what), -1);
            Due.is("adsorber(1, " + what + ")", x.adsorber(1, what), -1);
        }
    }

    private static void loadedByFlowsAlone() {
        ColdWorks x = new ColdWorks();
        x.tick(9);
        is("STOPPED", x, 0, new int[] {1, 0, 0});
        x.start();
        x.tick(9);
        is("nine flows", x, 0, new int[] {1, 9, 0});
        is("nine flows", x, 1, new int[] {0, 0, 0});
        x.trip();
        x.tick(9);
        is("TRIPPED", x, 0, new int[] {1, 9, 0});
        x.reset();
        is("reset", x, 0, new int[] {1, 9, 0});
        x.start();
        x.tick(1);
        is("started again", x, 0, new int[] {1, 10, 0});
    }

    private static void turns() {
        ColdWorks x = Setups.idle(20, 6);
        x.tick(19);
        is("flow 19", x, 0, new int[] {1, 19, 0});
        is("flow 19", x, 1, new int[] {0, 0, 0});
        x.tick(1);
        is("flow 20", x, 0, new int[] {2, 20, 0});
        is("flow 20", x, 1, new int[] {1, 0, 0});
        x.tick(1);
        is("flow 21", x, 0, new int[] {2, 20, 1});
        is("flow 21", x, 1, new int[] {1, 1, 0});
        x.tick(19);
        is("flow 40", x, 0, new int[] {1, 0, 0});
        is("flow 40", x, 1, new int[] {2, 20, 0});
        Due.is("flow 40: count(0)", x.count(0), 1);
    }

    private static void heatedThenCooled() {
        ColdWorks x = Setups.idle(20, 6);
        x.tick(25);
        is("5 ticks on", x, 0, new int[] {2, 20, 5});
        x.tick(1);
        is("6 ticks on", x, 0, new int[] {3, 20, 0});
        x.tick(5);
        is("11 ticks on", x, 0, new int[] {3, 20, 5});
        x.tick(1);
        is("12 ticks on", x, 0, new int[] {0, 0, 0});
        x.tick(5);
        is("17 ticks on", x, 0, new int[] {0, 0, 0});
        is("17 ticks on", x, 1, new int[] {1, 17, 0});
    }

    private static void shortestHeat() {
        ColdWorks x = Setups.idle(5, 1);
        x.tick(5);
        is("HEAT 1", x, 0, new int[] {2, 5, 0});
        x.tick(1);
        is("HEAT 1, a tick on", x, 0, new int[] {3, 5, 0});
        x.tick(1);
        is("HEAT 1, two ticks on", x, 0, new int[] {0, 0, 0});
        x.tick(60);
        Due.is("HEAT 1, on and on: count(0)", x.count(0), 1);
    }

    /** FULL 6, HEAT 3: what is heated behind flow 6 becomes ready in tick 12, ahead of its flow. */
    private static void readyInTheTickItIsWanted() {
        ColdWorks x = Setups.idle(6, 3);
        x.tick(11);
        is("tick 11", x, 0, new int[] {3, 6, 2});
        x.tick(1);
        is("tick 12", x, 0, new int[] {1, 0, 0});
        is("tick 12", x, 1, new int[] {2, 6, 0});
        Due.is("tick 12: count(0)", x.count(0), 1);
    }

    private static void readyATickTooLate() {
        ColdWorks x = Setups.idle(5, 3);
        x.tick(9);
        Due.is("tick 9: count(0)", x.count(0), 1);
        x.tick(1);
        Due.is("tick 10: count(0)", x.count(0), 4);
        Due.is("tick 10: count(8)", x.count(8), 1);
        is("tick 10", x, 0, new int[] {3, 5, 2});
        is("tick 10", x, 1, new int[] {2, 5, 0});
        x.tick(1);
        is("tick 11", x, 0, new int[] {1, 0, 0});
        is("tick 11", x, 1, new int[] {2, 5, 1});
        Due.is("tick 11: valve(0)", x.valve(0), 0);
        Due.is("tick 11: count(0)", x.count(0), 4);
    }

    private static void noneIsReady() {
        ColdWorks x = Setups.idle(5, 30);
        x.tick(10);
        Due.is("heat(3)", x.heat(3), 10);
        is("both heated", x, 0, new int[] {2, 5, 5});
        is("both heated", x, 1, new int[] {2, 5, 0});
        x.tick(20);
        Due.is("no more flows", x.heat(3), 10);
        is("both heated on", x, 0, new int[] {2, 5, 25});
        is("both heated on", x, 1, new int[] {2, 5, 20});
    }

    private static void firstReadyIsOn() {
        ColdWorks x = Setups.idle(5, 30);
        x.tick(10);
        Setups.settle(x);
        x.tick(51);
        is("tick 64", x, 0, new int[] {3, 5, 29});
        is("tick 64", x, 1, new int[] {3, 5, 24});
        x.tick(1);
        is("tick 65", x, 0, new int[] {1, 0, 0});
        x.tick(5);
        is("tick 70", x, 0, new int[] {1, 0, 0});
        is("tick 70", x, 1, new int[] {0, 0, 0});
    }

    /** HEAT is set so low that both go on in the same ticks: the one with the lower number is on. */
    private static void bothReadyAtOnce() {
        ColdWorks x = Setups.idle(5, 30);
        x.tick(10);
        x.set(5, 1);
        x.tick(1);
        is("a tick on", x, 0, new int[] {3, 5, 0});
        is("a tick on", x, 1, new int[] {3, 5, 0});
        x.tick(1);
        is("two ticks on", x, 0, new int[] {1, 0, 0});
        is("two ticks on", x, 1, new int[] {0, 0, 0});
    }

    private static void fullSetBelowTheLoad() {
        ColdWorks x = Setups.idle(20, 6);
        x.tick(10);
        x.set(4, 5);
        x.tick(1);
        is("11, FULL 5", x, 0, new int[] {2, 11, 0});
        is("11, FULL 5", x, 1, new int[] {1, 0, 0});
        Due.is("11, FULL 5: count(0)", x.count(0), 1);
    }

    private static void heatSetBelowTheTicks() {
        ColdWorks x = Setups.idle(20, 30);
        x.tick(30);
        is("10 ticks on", x, 0, new int[] {2, 20, 10});
        x.set(5, 4);
        x.tick(1);
        is("HEAT 4", x, 0, new int[] {3, 20, 0});
        x.tick(4);
        is("HEAT 4, four ticks on", x, 0, new int[] {0, 0, 0});
    }
}
