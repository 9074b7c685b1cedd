/** What is full, what is just not full, and what is empty: the tank, the bag, the orders, the meters. */
public final class BrimTest {
    public static void main(String[] args) {
        aTankThatFills();
        aTankThatIsFullAhead();
        theLeastRoom();
        theGreatestRoom();
        aBagThatFills();
        aBagThatIsEmptied();
        backUpToTheBrim();
        nothingToTake();
        orderOfAllThatIsThere();
        eightOrdersOfOneDay();
        ordersAtTheEdgeOfADay();
        daysWithoutOrders();
        theFirstAndTheLastCooler();
        everySetOfLostMeters();
        Due.end("BrimTest");
    }

    private static void store(String when, ColdWorks x, int state, int tank, int bag, long blown) {
        Due.is(when + ": count(0)", x.count(0), state);
        Due.is(when + ": count(1)", x.count(1), tank);
        Due.is(when + ": count(2)", x.count(2), bag);
        Due.is(when + ": meter(2)", x.meter(2), blown);
        Due.is(when + ": meter(3)", x.meter(3), tank + bag);
    }

    /** "what is beyond goes into the BAG as gas (1 for 1 ..", "If the TANK is full behind a FLOW: TRIPPED, by itself." */
    private static void aTankThatFills() {
        int[][] leftTankBagState = {
            {17, 31, 0, 2}, {16, 31, 0, 4}, {15, 30, 1, 4}, {14, 29, 2, 4}, {2, 17, 14, 4}, {1, 16, 15, 4}
        };
        for (int[] c : leftTankBagState) {
            ColdWorks x = Setups.running();
            x.set(3, 15 + c[0]);
            Due.is("room for " + c[0] + ": tick(1)", x.tick(1), 16);
            store("room for " + c[0], x, c[3], c[1], c[2], 0);
            Due.is("room for " + c[0] + ": count(8)", x.count(8), c[3] == 4 ? 1 : 0);
        }
    }

    /** The tank was full while it ran, with no flow since: all of the next flow goes past it, and then it trips. */
    private static void aTankThatIsFullAhead() {
        ColdWorks x = Setups.running();
        x.set(3, 15);
        store("full ahead", x, 2, 15, 0, 0);
        Due.is("full ahead: tick(1)", x.tick(1), 16);
        store("full behind", x, 4, 15, 16, 0);
        ColdWorks y = Setups.running();
        y.set(3, 15);
        y.order(1, 0);
        y.deliver();
        y.set(0, ColdWorks.NONE);
        y.set(2, 100);
        y.tick(1);
        store("one short, all but one past it", y, 4, 15, 3, 0);
    }

    /** "ROOM 10 .. 5000": 10. */
    private static void theLeastRoom() {
        ColdWorks x = Setups.strong();
        x.set(3, 10);
        x.start();
        Due.is("tick(2)", x.tick(2), 15);
        store("room 10", x, 4, 10, 5, 0);
    }

    /** 5000: the wheel makes 20 in each flow but the first. */
    private static void theGreatestRoom() {
        ColdWorks x = Setups.strong();
        x.set(2, 0);
        x.set(3, 5000);
        x.set(4, 60);
        x.set(5, 1);
        x.start();
        Due.is("the first tick(60)", x.tick(60), 1180);
        for (int i = 0; i < 3; i++) {
            Due.is("tick(60)", x.tick(60), 1200);
        }
        Due.is("tick(10)", x.tick(10), 200);
        store("20 short of 5000", x, 2, 4980, 0, 0);
        Due.is("tick(60) with one flow more", x.tick(60), 20);
        store("5000", x, 4, 5000, 0, 0);
        for (int i = 0; i < 8; i++) {
            x.order(500, 0);
        }
        Due.is("eight orders of 500", x.deliver(), 8);
        store("5000 less 4000", x, 4, 1000, 0, 0);
        Due.is("meter(1)", x.meter(1), 4000);
        Due.is("set(3, 999)", x.set(3, 999), -1);
        Due.is("set(3, 1000)", x.set(3, 1000), 5000);
    }

    /** One flow of 16, of which so many (1 .. 15) go past the tank; then STOPPED again. */
    private static void spillOver(ColdWorks x, int beyond) {
        x.set(3, x.count(1) + 16 - beyond);
        x.start();
        x.tick(1);
        Setups.settle(x);
    }

    /** STOPPED, with so much (5 .. 300) in the bag, and nothing blown yet. */
    private static ColdWorks bagOf(int n) {
        ColdWorks x = Setups.spilled();
        int spills = (n - 5) / 15;
        for (int i = 0; i < spills; i++) {
            spillOver(x, 15);
        }
        int rest = n - 5 - spills * 15;
        if (rest > 0) {
            spillOver(x, rest);
        }
        return x;
    }

    /** "its ROOM 300; what is beyond that is BLOWN" */
    private static void aBagThatFills() {
        int[][] hadBeyondHasBlown = {
            {5, 1, 6, 0}, {284, 15, 299, 0}, {285, 15, 300, 0}, {286, 15, 300, 1}, {299, 1, 300, 0}, {299, 2, 300, 1},
            {299, 15, 300, 14}, {300, 1, 300, 1}, {300, 15, 300, 15}
        };
        for (int[] c : hadBeyondHasBlown) {
            ColdWorks x = bagOf(c[0]);
            int tank = x.count(1);
            store("bag of " + c[0], x, 0, tank, c[0], 0);
            spillOver(x, c[1]);
            store("bag of " + c[0] + ", " + c[1] + " more", x, 0, tank + 16 - c[1], c[2], c[3]);
            Due.is("made is in balance", x.meter(0), x.meter(1) + x.meter(2) + x.meter(3));
        }
        ColdWorks x = bagOf(300);
        int tank = x.count(1);
        spillOver(x, 15);
        spillOver(x, 15);
        store("blown twice", x, 0, tank + 2, 300, 30);
    }

    private static void aBagThatIsEmptied() {
        ColdWorks x = bagOf(300);
        int tank = x.count(1);
        x.set(3, 5000);
        Due.is("300 in the bag: back(301)", x.back(301), -2);
        Due.is("300 in the bag: back(300)", x.back(300), tank + 300);
        store("emptied", x, 0, tank + 300, 0, 0);
        Due.is("emptied: back(1)", x.back(1), -2);
        spillOver(x, 15);
        store("filled anew", x, 0, tank + 301, 15, 0);
    }

    /** "the BAG has not so much, the TANK no room for it": each by one, and neither. */
    private static void backUpToTheBrim() {
        ColdWorks x = Setups.spilled();
        x.set(3, 14);
        Due.is("5 in the bag, room for 4: back(5)", x.back(5), -2);
        Due.is("5 in the bag, room for 4: back(4)", x.back(4), 14);
        Due.is("full: back(1)", x.back(1), -2);
        Due.is("full: start()", x.start(), -2);
        x.set(3, 15);
        Due.is("1 in the bag, room for 1: back(2)", x.back(2), -2);
        Due.is("1 in the bag, room for 1: back(1)", x.back(1), 15);
        x.set(3, 5000);
        Due.is("an empty bag, much room: back(1)", x.back(1), -2);
        store("in the end", x, 0, 15, 0, 0);
    }

    private static void nothingToTake() {
        ColdWorks x = new ColdWorks();
        Due.is("an empty bag, an empty tank: back(1)", x.back(1), -2);
        Due.is("an order of 1", x.order(1, 0), 0);
        Due.is("an empty tank: deliver()", x.deliver(), 0);
        Due.is("an empty tank: about(0, 2)", x.about(0, 2), 2);
        Due.is("an empty tank: count(9)", x.count(9), 1);
        store("empty", x, 0, 0, 0, 0);
    }

    /** "delivered, if the TANK has as much (it is taken); else MISSED" */
    private static void orderOfAllThatIsThere() {
        int[][] wantDeliveredLeft = {{1, 1, 14}, {14, 1, 1}, {15, 1, 0}, {16, 0, 15}, {500, 0, 15}};
        for (int[] c : wantDeliveredLeft) {
            ColdWorks x = Setups.running();
            x.order(c[0], 0);
            String when = "15 in the tank, " + c[0] + " wanted: ";
            Due.is(when + "deliver()", x.deliver(), c[1]);
            Due.is(when + "about(0, 2)", x.about(0, 2), 2 - c[1]);
            Due.is(when + "count(1)", x.count(1), c[2]);
            Due.is(when + "meter(1)", x.meter(1), 15 - c[2]);
            Due.is(when + "count(9)", x.count(9), 1 - c[1]);
        }
    }

    /** "those of it, by numbers": 15 in the tank. */
    private static void eightOrdersOfOneDay() {
        int[] wanted = {16, 9, 7, 6, 1, 1, 500, 2};
        int[] how = {2, 1, 2, 1, 2, 2, 2, 2};
        ColdWorks x = Setups.running();
        for (int i = 0; i < 8; i++) {
            x.order(wanted[i], 0);
        }
        Due.is("deliver()", x.deliver(), 2);
        for (int i = 0; i < 8; i++) {
            Due.is("about(" + i + ", 2)", x.about(i, 2), how[i]);
        }
        Due.is("count(9)", x.count(9), 6);
        Due.is("count(1)", x.count(1), 0);
    }

    /** "(One of a DAY that is over waits on.)" */
    private static void ordersAtTheEdgeOfADay() {
        for (int day = 0; day <= 9; day++) {
            ColdWorks x = Setups.running();
            for (int i = 0; i < day; i++) {
                x.deliver();
            }
            x.order(1, day);
            x.order(1, Math.max(day - 1, 0));
            x.order(1, Math.min(day + 1, 9));
            String when = "on day " + day + ": ";
            Due.is(when + "deliver()", x.deliver(), day == 0 || day == 9 ? 2 : 1);
            Due.is(when + "of the day", x.about(0, 2), 1);
            Due.is(when + "of the day before", x.about(1, 2), day == 0 ? 1 : 0);
            Due.is(when + "of the day behind", x.about(2, 2), day == 9 ? 1 : 0);
            x.order(1, day);
            for (int i = day + 1; i <= 9; i++) {
                x.deliver();
            }
            Due.is(when + "it is over, behind day 9", x.about(3, 2), 0);
            Due.is(when + "of the day before, behind day 9", x.about(1, 2), day == 0 ? 1 : 0);
            Due.is(when + "of the day behind, behind day 9", x.about(2, 2), 1);
            Due.is(when + "count(9)", x.count(9), 0);
        }
    }

    /** "DAY 9 was." */
    private static void daysWithoutOrders() {
        ColdWorks x = new ColdWorks();
        for (int day = 0; day <= 9; day++) {
            Due.is("count(6)", x.count(6), day);
            Due.is("deliver() of day " + day, x.deliver(), 0);
        }
        for (int i = 0; i < 3; i++) {
            Due.is("count(6)", x.count(6), 10);
            Due.is("deliver() behind day 9", x.deliver(), -2);
        }
    }

    /** "COOLERS (6 at most)": each of the six can be asked, be at the end and be split. */
    private static void theFirstAndTheLastCooler() {
        ColdWorks x = new ColdWorks();
        for (int i = 0; i < 6; i++) {
            x.cooler(1, i, i, i, i, i, 0);
        }
        for (int i = 0; i < 6; i++) {
            Due.is("cold(" + i + ", 0)", x.cold(i, 0), i);
            Due.is("set(0, " + i + ")", x.set(0, i), i == 0 ? -9 : i - 1);
        }
        Due.is("split(0, 5, 0, 4)", x.split(0, 5, 0, 4), 10);
        Due.is("split(0, 5, 0, 5)", x.split(0, 5, 0, 5), 0);
        x.start();
        x.tick(1);
        Due.is("the last one cools by 5", x.side(1, 3), 295);
    }

    /** "where just one is LOST it tells that one", "hidden (it is LOST, and another one, too)" */
    private static void everySetOfLostMeters() {
        ColdWorks full = bagOf(300);
        spillOver(full, 14);
        full.order(3, 0);
        full.deliver();
        // 15, 19 spills of 15 past a flow of 16, one of 10 (to bring 290 to 300), and one of 14.
        long[] reads = {15 + 19 * 16 + 16 + 16, 3, 14, 15 + 19 * 16 + 16 + 16 - 3 - 14};
        for (int set = 0; set < 16; set++) {
            for (int m = 0; m < 4; m++) {
                full.lose(m, (set >> m & 1) == 1);
            }
            for (int m = 0; m < 4; m++) {
                boolean lost = (set >> m & 1) == 1;
                boolean alone = set == 1 << m;
                Due.is("lost " + set + ": meter(" + m + ")", full.meter(m), lost ? -9 : reads[m]);
                Due.is("lost " + set + ": balance(" + m + ")", full.balance(m), lost && !alone ? -9 : reads[m]);
            }
        }
    }
}
