/** Works in the conditions that several tests begin with. */
final class Setups {
    private Setups() {
    }

    /** One cell, the strongest wheel (it cools by 60), the inlet at 60: flows make 0, 15, then 16 each. */
    static ColdWorks strong() {
        ColdWorks x = new ColdWorks();
        x.cooler(1, 50, 50, 50, 50, 50, 0);
        x.cells(1, 1);
        x.set(0, 0);
        x.set(1, 40);
        x.set(2, 60);
        return x;
    }

    /** As strong(), and RUNNING behind two ticks, with 15 in the tank. */
    static ColdWorks running() {
        ColdWorks x = strong();
        x.start();
        x.tick(2);
        return x;
    }

    /** As running(), and LOW. */
    static ColdWorks low() {
        ColdWorks x = running();
        x.low();
        return x;
    }

    /** As running(), and tripped by hand. */
    static ColdWorks tripped() {
        ColdWorks x = running();
        x.trip();
        return x;
    }

    /** COOLING without a cooler: ticks load the adsorbers and make nothing. */
    static ColdWorks idle(int fullLoad, int heatTicks) {
        ColdWorks x = new ColdWorks();
        x.set(4, fullLoad);
        x.set(5, heatTicks);
        x.start();
        return x;
    }

    /** STOPPED, a full tank of 10, and 5 in the bag: 15 were made. */
    static ColdWorks spilled() {
        ColdWorks x = strong();
        x.set(3, 10);
        x.start();
        x.tick(2);
        settle(x);
        return x;
    }

    /** Of works like spilled(): room for one more, and one flow of 16, of which 15 go past the tank. */
    static void spill(ColdWorks x) {
        x.set(3, x.count(1) + 1);
        x.start();
        x.tick(1);
        settle(x);
    }

    /** From TRIPPED to STOPPED. */
    static void settle(ColdWorks x) {
        x.tick(3);
        x.reset();
    }

    /**
     * Works in which nothing is as at first any more, in the state that is asked for: three coolers, orders of each
     * kind, a lost meter, gas in the bag, an adsorber that is heated or cooled, ticks of the state behind them.
     */
    static ColdWorks busy(int state) {
        ColdWorks x = new ColdWorks();
        x.cooler(1, 50, 50, 50, 50, 50, 0);
        x.cooler(0, 0, 0, 0, 0, 0, 0);
        x.cooler(2, 1, 2, 4, 7, 50, 30);
        x.cold(2, 40);
        x.set(0, 0);
        x.set(1, 40);
        x.set(2, 60);
        x.cells(1, 1);
        x.set(3, 10);
        x.start();
        x.tick(2);
        settle(x);
        x.order(4, 0);
        x.order(400, 0);
        x.order(2, 8);
        x.deliver();
        x.lose(1, true);
        x.set(4, 5);
        x.set(5, 9);
        x.cells(2, 30);
        x.start();
        x.tick(3);
        x.set(3, 300);
        x.set(4, 30);
        lead(x, state);
        return x;
    }

    private static void lead(ColdWorks x, int state) {
        if (state == ColdWorks.COOLING) {
            return;
        }
        x.tick(2);
        if (state == ColdWorks.LOW) {
            x.low();
            x.tick(1);
        }
        if (state == ColdWorks.TRIPPED || state == ColdWorks.STOPPED) {
            x.trip();
            x.tick(1);
        }
        if (state == ColdWorks.STOPPED) {
            x.tick(2);
            x.reset();
        }
    }
}
