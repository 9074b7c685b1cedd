/** Promises 16 (order), 17 (deliver) and 18 (about). */
public final class OrdersTest {
    private static final int MIN = Integer.MIN_VALUE, MAX = Integer.MAX_VALUE;

    public static void main(String[] args) {
        numbersAndFull();
        orderRefused();
        orderEdges();
        deliverByNumbers();
        deliverDayByDay();
        deliverExactly();
        deliverUntilDayNine();
        ordersOfDaysThatAreOver();
        deliverInEveryState();
        aboutRefused();
        Due.end("OrdersTest");
    }

    private static void numbersAndFull() {
        ColdWorks x = new ColdWorks();
        for (int i = 0; i < 8; i++) {
            Due.is("order number " + i, x.order(i + 1, i), i);
            Due.is("count(5)", x.count(5), i + 1);
        }
        Due.is("a ninth order", x.order(1, 0), -3);
        Due.is("a ninth that is bad", x.order(0, 0), -1);
        Due.is("a ninth that is bad", x.order(1, 10), -1);
        Due.is("count(5)", x.count(5), 8);
        x.deliver();
        Due.is("a ninth behind a delivery", x.order(1, 5), -3);
        for (int i = 0; i < 8; i++) {
            Due.is("about(" + i + ", 0)", x.about(i, 0), i + 1);
            Due.is("about(" + i + ", 1)", x.about(i, 1), i);
        }
    }

    private static void orderRefused() {
        ColdWorks x = new ColdWorks();
        for (int n : new int[] {0, -1, 501, MIN, MAX}) {
            Due.is("order(" + n + ", 0)", x.order(n, 0), -1);
        }
        for (int day : new int[] {-1, 10, MIN, MAX}) {
            Due.is("order(1, " + day + ")", x.order(1, day), -1);
        }
        Due.is("count(5)", x.count(5), 0);
    }

    private static void orderEdges() {
        ColdWorks x = new ColdWorks();
        Due.is("order(1, 0)", x.order(1, 0), 0);
        Due.is("order(500, 9)", x.order(500, 9), 1);
        Due.is("about(1, 0)", x.about(1, 0), 500);
        Due.is("about(1, 1)", x.about(1, 1), 9);
        Due.is("about(1, 2)", x.about(1, 2), 0);
    }

    /** 15 in the tank: an order that is missed does not keep a later, smaller one from its liquid. */
    private static void deliverByNumbers() {
        ColdWorks x = Setups.running();
        x.order(10, 0);
        x.order(6, 0);
        x.order(5, 0);
        x.order(1, 0);
        Due.is("deliver()", x.deliver(), 2);
        int[] how = {1, 2, 1, 2};
        for (int i = 0; i < how.length; i++) {
            Due.is("about(" + i + ", 2)", x.about(i, 2), how[i]);
        }
        Due.is("count(1)", x.count(1), 0);
        Due.is("count(9)", x.count(9), 2);
        Due.is("meter(1)", x.meter(1), 15);
    }

    private static void deliverDayByDay() {
        ColdWorks x = Setups.running();
        x.order(3, 1);
        x.order(2, 0);
        x.order(4, 1);
        Due.is("day 0", x.deliver(), 1);
        Due.is("day 0: about(0, 2)", x.about(0, 2), 0);
        Due.is("day 0: about(1, 2)", x.about(1, 2), 1);
        Due.is("day 0: count(1)", x.count(1), 13);
        Due.is("day 0: count(6)", x.count(6), 1);
        Due.is("day 1", x.deliver(), 2);
        Due.is("day 1: count(1)", x.count(1), 6);
        Due.is("day 1: count(9)", x.count(9), 0);
        Due.is("day 2", x.deliver(), 0);
        Due.is("day 2: count(1)", x.count(1), 6);
        Due.is("meter(1)", x.meter(1), 9);
    }

    private static void deliverExactly() {
        ColdWorks x = Setups.running();
        x.order(15, 0);
        Due.is("all that the tank has", x.deliver(), 1);
        Due.is("count(1)", x.count(1), 0);
        ColdWorks y = Setups.spilled();
        y.order(11, 0);
        Due.is("the bag is not delivered from", y.deliver(), 0);
        Due.is("count(1)", y.count(1), 10);
        Due.is("about(0, 2)", y.about(0, 2), 2);
    }

    private static void deliverUntilDayNine() {
        ColdWorks x = Setups.running();
        x.order(5, 9);
        for (int day = 0; day < 9; day++) {
            Due.is("count(6)", x.count(6), day);
            Due.is("deliver() of day " + day, x.deliver(), 0);
        }
        Due.is("deliver() of day 9", x.deliver(), 1);
        Due.is("count(6)", x.count(6), 10);
        Due.is("deliver() behind day 9", x.deliver(), -2);
        Due.is("deliver() behind day 9", x.deliver(), -2);
        Due.is("count(6)", x.count(6), 10);
        Due.is("count(1)", x.count(1), 10);
        Due.is("order(1, 9) behind day 9", x.order(1, 9), 1);
        Due.is("deliver() behind day 9", x.deliver(), -2);
        Due.is("about(1, 2)", x.about(1, 2), 0);
    }

    private static void ordersOfDaysThatAreOver() {
        ColdWorks x = Setups.running();
        x.deliver();
        Due.is("order(1, 0), day 0 is over", x.order(1, 0), 0);
        Due.is("deliver()", x.deliver(), 0);
        Due.is("it waits on", x.about(0, 2), 0);
        Due.is("count(9)", x.count(9), 0);
        Due.is("count(1)", x.count(1), 15);
    }

    private static void deliverInEveryState() {
        ColdWorks cooling = Setups.strong();
        cooling.start();
        ColdWorks[] all = {Setups.strong(), cooling, Setups.running(), Setups.low(), Setups.tripped()};
        for (int state = 0; state <= 4; state++) {
            ColdWorks x = all[state];
            Due.is("in state " + state + ": order(15, 0)", x.order(15, 0), 0);
            Due.is("in state " + state + ": deliver()", x.deliver(), state < 2 ? 0 : 1);
            Due.is("in state " + state + ": count(0)", x.count(0), state);
        }
    }

    private static void aboutRefused() {
        ColdWorks x = new ColdWorks();
        Due.is("about(0, 0) without an order", x.about(0, 0), -1);
        x.order(1, 1);
        for (int order : new int[] {-1, 1, 7, 8, MIN, MAX}) {
            Due.is("about(" + order + ", 0)", x.about(order, 0), -1);
        }
        for (int what : new int[] {-1, 3, MIN, MAX}) {
            Due.is("about(0, " + what + ")", x.about(0, what), -1);
        }
    }
}
