import java.util.function.Supplier;

/**
 * Each number that a call is given: all of it that is taken, from the first to the last, and what is refused on either
 * side: the next ones, those far outside, and those that would be inside again if numbers were cut short.
 */
public final class BoundsTest {
    private static final int MIN = Integer.MIN_VALUE, MAX = Integer.MAX_VALUE;

    /** A call with one of its numbers left open. */
    private interface Call {
        long ask(ColdWorks x, int v);
    }

    public static void main(String[] args) {
        coolerNumbers();
        corners(1);
        corners(2);
        whatIsNotLookedAt();
        coldNumbers();
        cellsNumbers();
        setNumbers();
        coolerAtTheEnd();
        roomNotBelowTheTank();
        sideNumbers();
        readingNumbers();
        tickNumbers();
        orderNumbers();
        aboutNumbers();
        backNumbers();
        meterNumbers();
        splitNumbers();
        Due.end("BoundsTest");
    }

    /** Of a call's open number least .. most are taken, each by new works, and no other. */
    private static void bound(String call, Supplier<ColdWorks> works, Call open, int least, int most) {
        for (int v = least; v <= most; v++) {
            long answer = open.ask(works.get(), v);
            boolean taken = answer >= 0 || answer == ColdWorks.NONE;
            Due.is(call + " with " + v + " is taken", taken ? 1 : 0, 1);
        }
        int[] outside = {
            least - 1, least - 2, least - 10, most + 1, most + 2, most + 10, MIN, MIN + 1, MAX, MAX - 1,
            least - 256, most + 256, least - 65536, most + 65536, least + MIN, most + MIN
        };
        for (int v : outside) {
            if (v < least || v > most) {
                Twins.refused(call + " with " + v, works, x -> open.ask(x, v), ColdWorks.BAD);
            }
        }
    }

    /** STOPPED, with coolers 0 .. 2, orders 0 .. 2, two cells, 20 in the tank and 5 in the bag. */
    private static ColdWorks works() {
        return Setups.busy(ColdWorks.STOPPED);
    }

    /** "0 THROTTLE, 1 WHEEL, 2 BRAKED", "a LIMIT (0 .. 60)" */
    private static void coolerNumbers() {
        bound("a cooler's kind", ColdWorks::new, (x, v) -> x.cooler(v, 0, 0, 0, 0, 0, 0), 0, 2);
        bound("a braked one's limit", ColdWorks::new, (x, v) -> x.cooler(2, 0, 0, 0, 0, 0, v), 0, 60);
    }

    /** "five CORNERS (0 .. 50 each, none below the one before it)" */
    private static void corners(int kind) {
        String call = "kind " + kind + ", corner ";
        bound(call + "0", ColdWorks::new, (x, v) -> x.cooler(kind, v, 50, 50, 50, 50, 1), 0, 50);
        bound(call + "0 up to 1", ColdWorks::new, (x, v) -> x.cooler(kind, v, 30, 30, 30, 30, 1), 0, 30);
        bound(call + "1", ColdWorks::new, (x, v) -> x.cooler(kind, 0, v, 50, 50, 50, 1), 0, 50);
        bound(call + "1 from 0 up to 2", ColdWorks::new, (x, v) -> x.cooler(kind, 10, v, 30, 50, 50, 1), 10, 30);
        bound(call + "2", ColdWorks::new, (x, v) -> x.cooler(kind, 0, 0, v, 50, 50, 1), 0, 50);
        bound(call + "2 from 1 up to 3", ColdWorks::new, (x, v) -> x.cooler(kind, 0, 10, v, 30, 50, 1), 10, 30);
        bound(call + "3", ColdWorks::new, (x, v) -> x.cooler(kind, 0, 0, 0, v, 50, 1), 0, 50);
        bound(call + "3 from 2 up to 4", ColdWorks::new, (x, v) -> x.cooler(kind, 0, 0, 10, v, 30, 1), 10, 30);
        bound(call + "4", ColdWorks::new, (x, v) -> x.cooler(kind, 0, 0, 0, 0, v, 1), 0, 50);
        bound(call + "4 from 3", ColdWorks::new, (x, v) -> x.cooler(kind, 0, 0, 0, 10, v, 1), 10, 50);
        bound(call + "0 to 4", ColdWorks::new, (x, v) -> x.cooler(kind, v, v, v, v, v, 1), 0, 50);
    }

    /** "(CORNERS are not looked at of a THROTTLE, limit just of a BRAKED one.)" */
    private static void whatIsNotLookedAt() {
        for (int v : new int[] {MIN, -9, -1, 0, 50, 51, 60, 61, MAX}) {
            ColdWorks x = new ColdWorks();
            Due.is("a throttle, corners of " + v, x.cooler(0, v, v, v, v, v, 0), 0);
            Due.is("a throttle, falling corners", x.cooler(0, MAX, v, 3, 2, v, v), 1);
            Due.is("a throttle, limit " + v, x.cooler(0, 0, 0, 0, 0, 0, v), 2);
            Due.is("a wheel, limit " + v, x.cooler(1, 0, 0, 0, 0, 50, v), 3);
            for (int cooler = 0; cooler < 3; cooler++) {
                Due.is("it is a throttle all the same", x.cold(cooler, 40), 10);
            }
            Due.is("it is a wheel all the same", x.cold(3, 40), 60);
        }
    }

    /** "THE COLD at a DROP d (0 .. 40)" */
    private static void coldNumbers() {
        bound("cold(v, 5)", BoundsTest::works, (x, v) -> x.cold(v, 5), 0, 2);
        for (int cooler = 0; cooler < 3; cooler++) {
            int c = cooler;
            bound("cold(" + c + ", v)", BoundsTest::works, (x, v) -> x.cold(c, v), 0, 40);
        }
        for (int made = 1; made <= 6; made++) {
            int n = made;
            bound(n + " coolers: cold(v, 0)", () -> throttles(n), (x, v) -> x.cold(v, 0), 0, n - 1);
        }
        Due.is("no cooler: cold(0, 0)", new ColdWorks().cold(0, 0), ColdWorks.BAD);
    }

    private static ColdWorks throttles(int n) {
        ColdWorks x = new ColdWorks();
        for (int i = 0; i < n; i++) {
            x.cooler(0, 0, 0, 0, 0, 0, 0);
        }
        return x;
    }

    /** "CELLS 0 .. n - 1 (n 1 .. 8 ..", "THE PASS K (1 .. 50 hundredths ..)" */
    private static void cellsNumbers() {
        bound("cells(v, 20)", BoundsTest::works, (x, v) -> x.cells(v, 20), 1, 8);
        bound("cells(4, v)", BoundsTest::works, (x, v) -> x.cells(4, v), 1, 50);
        for (int n = 1; n <= 8; n++) {
            ColdWorks x = works();
            Due.is("cells(" + n + ", 1)", x.cells(n, 1), 1);
            Due.is("count(4)", x.count(4), n);
        }
    }

    /** THE DROP 0 .. 40, THE INLET 0 .. 400, the TANK's ROOM 10 .. 5000, FULL 5 .. 60, HEAT 1 .. 30 */
    private static void setNumbers() {
        bound("set(v, 10)", () -> throttles(6), (x, v) -> x.set(v, 10), 1, 5);
        int[][] ends = {{1, 0, 40}, {2, 0, 400}, {3, 10, 5000}, {4, 5, 60}, {5, 1, 30}};
        for (int[] e : ends) {
            bound("set(" + e[0] + ", v)", ColdWorks::new, (x, v) -> x.set(e[0], v), e[1], e[2]);
            for (int v = e[1]; v <= e[2]; v++) {
                ColdWorks x = new ColdWorks();
                x.set(e[0], v);
                Due.is("set(" + e[0] + ", " + v + "), and what it was", x.set(e[0], e[1]), v);
            }
        }
    }

    /** "THE COOLER (what = 0; NONE: none)" */
    private static void coolerAtTheEnd() {
        for (int made = 0; made <= 6; made++) {
            ColdWorks x = throttles(made);
            for (int v : new int[] {MIN, -10, -8, -1, made, made + 1, 6, 7, MAX}) {
                int n = made;
                Twins.refused(n + " coolers: set(0, " + v + ")", () -> throttles(n), y -> y.set(0, v), ColdWorks.BAD);
            }
            int was = ColdWorks.NONE;
            for (int v = 0; v < made; v++) {
                Due.is(made + " coolers: set(0, " + v + ")", x.set(0, v), was);
                was = v;
            }
            Due.is(made + " coolers: set(0, NONE)", x.set(0, ColdWorks.NONE), was);
            Due.is(made + " coolers: set(0, NONE) again", x.set(0, ColdWorks.NONE), ColdWorks.NONE);
        }
    }

    /** "the TANK's ROOM (3; not below what it has)" */
    private static void roomNotBelowTheTank() {
        bound("20 in the tank: set(3, v)", BoundsTest::works, (x, v) -> x.set(3, v), 20, 5000);
        // Below 10 the tank's own bound is the stricter one.
        bound("4 in the tank: set(3, v)", () -> holding(4), (x, v) -> x.set(3, v), 10, 5000);
        bound("9 in the tank: set(3, v)", () -> holding(9), (x, v) -> x.set(3, v), 10, 5000);
        bound("10 in the tank: set(3, v)", () -> holding(10), (x, v) -> x.set(3, v), 10, 5000);
        bound("11 in the tank: set(3, v)", () -> holding(11), (x, v) -> x.set(3, v), 11, 5000);
    }

    private static ColdWorks holding(int n) {
        ColdWorks x = Setups.running();
        x.order(15 - n, 0);
        x.deliver();
        return x;
    }

    /** "A number of a side (0 warm, 1 cold) at a CELL." */
    private static void sideNumbers() {
        bound("side(v, 0)", BoundsTest::works, (x, v) -> x.side(v, 0), 0, 1);
        for (int cells = 1; cells <= 8; cells++) {
            int n = cells;
            bound(n + " cells: side(0, v)", () -> ofCells(n), (x, v) -> x.side(0, v), 0, n - 1);
            bound(n + " cells: side(1, v)", () -> ofCells(n), (x, v) -> x.side(1, v), 0, n - 1);
        }
    }

    /** A long exchanger stood here before: what was its end must not be read any more. */
    private static ColdWorks ofCells(int n) {
        ColdWorks x = new ColdWorks();
        x.cells(8, 50);
        x.cells(n, 50);
        return x;
    }

    private static void readingNumbers() {
        bound("heat(v)", BoundsTest::works, (x, v) -> x.heat(v), 0, 3);
        bound("adsorber(v, 0)", BoundsTest::works, (x, v) -> x.adsorber(v, 0), 0, 1);
        bound("adsorber(0, v)", BoundsTest::works, (x, v) -> x.adsorber(0, v), 0, 2);
        bound("adsorber(1, v)", BoundsTest::works, (x, v) -> x.adsorber(1, v), 0, 2);
        bound("valve(v)", BoundsTest::works, (x, v) -> x.valve(v), 0, 2);
        bound("count(v)", BoundsTest::works, (x, v) -> x.count(v), 0, 9);
    }

    /** "So many TICKS (1 .. 60)" */
    private static void tickNumbers() {
        for (int state = 0; state <= 4; state++) {
            int s = state;
            bound("in state " + s + ": tick(v)", () -> Setups.busy(s), (x, v) -> x.tick(v), 1, 60);
            for (int n = 1; n <= 60; n++) {
                ColdWorks x = Setups.busy(s);
                int before = x.count(7);
                x.tick(n);
                Due.is("ticks by tick(" + n + ")", x.count(7) - before, n);
            }
        }
    }

    /** "want LIQUID n (1 .. 500) by a DAY (0 .. 9)" */
    private static void orderNumbers() {
        bound("order(v, 3)", BoundsTest::works, (x, v) -> x.order(v, 3), 1, 500);
        bound("order(3, v)", BoundsTest::works, (x, v) -> x.order(3, v), 0, 9);
        for (int v : new int[] {1, 2, 499, 500}) {
            ColdWorks x = works();
            x.order(v, 0);
            Due.is("order(" + v + ", 0): about(3, 0)", x.about(3, 0), v);
        }
        for (int day = 0; day <= 9; day++) {
            ColdWorks x = works();
            x.order(1, day);
            Due.is("order(1, " + day + "): about(3, 1)", x.about(3, 1), day);
        }
    }

    private static void aboutNumbers() {
        bound("about(0, v)", BoundsTest::works, (x, v) -> x.about(0, v), 0, 2);
        for (int taken = 1; taken <= 8; taken++) {
            int n = taken;
            for (int what = 0; what <= 2; what++) {
                int w = what;
                bound(n + " orders: about(v, " + w + ")", () -> ofOrders(n), (x, v) -> x.about(v, w), 0, n - 1);
            }
        }
        Due.is("no order: about(0, 0)", new ColdWorks().about(0, 0), ColdWorks.BAD);
    }

    private static ColdWorks ofOrders(int n) {
        ColdWorks x = new ColdWorks();
        for (int i = 0; i < n; i++) {
            x.order(i + 1, i);
        }
        return x;
    }

    /** "n (1 or more) go back": what is too much is no wrong number, but STATE. */
    private static void backNumbers() {
        for (int n = 1; n <= 5; n++) {
            Due.is("5 in the bag: back(" + n + ")", works().back(n), 20 + n);
        }
        for (int n : new int[] {0, -1, -256, -65536, MIN + 1, MIN}) {
            Twins.refused("back(" + n + ")", BoundsTest::works, x -> x.back(n), ColdWorks.BAD);
        }
        for (int n : new int[] {6, 257, 261, 65537, 65541, MAX - 20, MAX - 1, MAX}) {
            Twins.refused("back(" + n + ")", BoundsTest::works, x -> x.back(n), ColdWorks.STATE);
        }
    }

    /** "METERS: 0 what was made ever, 1 delivered, 2 BLOWN, 3 what the TANK and the BAG have now" */
    private static void meterNumbers() {
        bound("meter(v)", BoundsTest::works, (x, v) -> x.meter(v), 0, 3);
        bound("balance(v)", BoundsTest::works, (x, v) -> x.balance(v), 0, 3);
        bound("lose(v, true)", BoundsTest::works, (x, v) -> x.lose(v, true), 0, 3);
        bound("lose(v, false)", BoundsTest::works, (x, v) -> x.lose(v, false), 0, 3);
    }

    /** "THE SPLIT of two COOLERS at a DROP, by a price (0 .. 20)" */
    private static void splitNumbers() {
        bound("split(v, 1, 9, 9)", BoundsTest::works, (x, v) -> x.split(v, 1, 9, 9), 0, 2);
        bound("split(1, v, 9, 9)", BoundsTest::works, (x, v) -> x.split(1, v, 9, 9), 0, 2);
        bound("split(0, 1, v, 9)", BoundsTest::works, (x, v) -> x.split(0, 1, v, 9), 0, 40);
        bound("split(0, 1, 9, v)", BoundsTest::works, (x, v) -> x.split(0, 1, 9, v), 0, 20);
        Due.is("no cooler: split(0, 0, 0, 0)", new ColdWorks().split(0, 0, 0, 0), ColdWorks.BAD);
        Due.is("one cooler: split(0, 1, 0, 0)", throttles(1).split(0, 1, 0, 0), ColdWorks.BAD);
        Due.is("one cooler: split(1, 0, 0, 0)", throttles(1).split(1, 0, 0, 0), ColdWorks.BAD);
    }
}
