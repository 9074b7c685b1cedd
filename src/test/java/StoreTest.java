/** Promises 19 (back), 20 (lose), 21 (meter) and 22 (balance), and how the tank and the bag fill. */
public final class StoreTest {
    private static final int MIN = Integer.MIN_VALUE, MAX = Integer.MAX_VALUE;

    public static void main(String[] args) {
        whatIsBeyondTheTank();
        whatIsBeyondTheBag();
        backIntoTheTank();
        backRefused();
        backIsNoFlow();
        loseTellsWhetherItWas();
        loseRefused();
        metersRead();
        metersThatAreLost();
        balanceTellsJustOne();
        balanceHidden();
        metersRefused();
        Due.end("StoreTest");
    }

    private static void meters(String when, ColdWorks x, long[] wanted) {
        for (int m = 0; m < wanted.length; m++) {
            Due.is(when + ": meter(" + m + ")", x.meter(m), wanted[m]);
        }
    }

    private static void whatIsBeyondTheTank() {
        ColdWorks x = Setups.spilled();
        Due.is("count(1)", x.count(1), 10);
        Due.is("count(2)", x.count(2), 5);
        meters("spilled", x, new long[] {15, 0, 0, 15});
        Setups.spill(x);
        Due.is("count(1)", x.count(1), 11);
        Due.is("count(2)", x.count(2), 20);
        meters("spilled again", x, new long[] {31, 0, 0, 31});
    }

    private static void whatIsBeyondTheBag() {
        ColdWorks x = Setups.spilled();
        for (int i = 0; i < 19; i++) {
            Setups.spill(x);
        }
        Due.is("20 spilled: count(1)", x.count(1), 29);
        Due.is("20 spilled: count(2)", x.count(2), 290);
        meters("20 spilled", x, new long[] {319, 0, 0, 319});
        Setups.spill(x);
        Due.is("21 spilled: count(2)", x.count(2), 300);
        meters("21 spilled", x, new long[] {335, 0, 5, 330});
        Setups.spill(x);
        Due.is("22 spilled: count(1)", x.count(1), 31);
        Due.is("22 spilled: count(2)", x.count(2), 300);
        meters("22 spilled", x, new long[] {351, 0, 20, 331});
        for (int m = 0; m < 4; m++) {
            x.lose(m, true);
            Due.is("22 spilled, one lost: balance(" + m + ")", x.balance(m), new long[] {351, 0, 20, 331}[m]);
            x.lose(m, false);
        }
    }

    private static void backIntoTheTank() {
        ColdWorks x = Setups.spilled();
        x.set(3, 13);
        Due.is("back(1)", x.back(1), 11);
        Due.is("count(2)", x.count(2), 4);
        Due.is("back(3): no room", x.back(3), -2);
        Due.is("back(2): just room", x.back(2), 13);
        Due.is("count(1)", x.count(1), 13);
        Due.is("count(2)", x.count(2), 2);
        x.set(3, 500);
        Due.is("back(3): not so much", x.back(3), -2);
        Due.is("back(2): all of it", x.back(2), 15);
        Due.is("count(2)", x.count(2), 0);
        Due.is("back(1): the bag is empty", x.back(1), -2);
        meters("all back", x, new long[] {15, 0, 0, 15});
    }

    private static void backRefused() {
        ColdWorks x = Setups.spilled();
        for (int n : new int[] {0, -1, MIN}) {
            Due.is("back(" + n + ")", x.back(n), -1);
        }
        Due.is("back(1): the tank is full", x.back(1), -2);
        Due.is("back(MAX)", x.back(MAX), -2);
        Due.is("back(MAX - 5)", x.back(MAX - 5), -2);
        Due.is("count(1)", x.count(1), 10);
        Due.is("count(2)", x.count(2), 5);
        Due.is("back(1) of a new one", new ColdWorks().back(1), -2);
        Due.is("back(0) of a new one", new ColdWorks().back(0), -1);
    }

    private static void backIsNoFlow() {
        ColdWorks x = Setups.spilled();
        x.set(3, 12);
        x.start();
        Due.is("back(2) while COOLING", x.back(2), 12);
        Due.is("the tank is full, no flow yet: count(0)", x.count(0), 1);
        x.tick(1);
        Due.is("behind a flow: count(0)", x.count(0), 4);
    }

    private static void loseTellsWhetherItWas() {
        ColdWorks x = new ColdWorks();
        for (int m = 0; m < 4; m++) {
            String call = "lose(" + m + ", ";
            Due.is(call + "false)", x.lose(m, false), 0);
            Due.is(call + "true)", x.lose(m, true), 0);
            Due.is(call + "true) again", x.lose(m, true), 1);
            Due.is(call + "false)", x.lose(m, false), 1);
            Due.is(call + "false) again", x.lose(m, false), 0);
        }
    }

    private static void loseRefused() {
        ColdWorks x = new ColdWorks();
        for (int m : new int[] {-1, 4, MIN, MAX}) {
            Due.is("lose(" + m + ", true)", x.lose(m, true), -1);
            Due.is("lose(" + m + ", false)", x.lose(m, false), -1);
        }
        meters("none is lost", x, new long[] {0, 0, 0, 0});
    }

    private static void metersRead() {
        ColdWorks x = Setups.running();
        meters("running", x, new long[] {15, 0, 0, 15});
        x.order(4, 0);
        x.deliver();
        meters("delivered", x, new long[] {15, 4, 0, 11});
        x.tick(2);
        meters("made on", x, new long[] {47, 4, 0, 43});
        x.trip();
        Setups.settle(x);
        x.cells(4, 20);
        meters("what was made ever stays", x, new long[] {47, 4, 0, 43});
    }

    private static void metersThatAreLost() {
        ColdWorks x = Setups.running();
        x.order(4, 0);
        x.deliver();
        long[] wanted = {15, 4, 0, 11};
        for (int m = 0; m < 4; m++) {
            x.lose(m, true);
            Due.is("lost: meter(" + m + ")", x.meter(m), -9);
            Due.is("lost: the next one reads", x.meter((m + 1) % 4), wanted[(m + 1) % 4]);
            x.lose(m, false);
            Due.is("read again: meter(" + m + ")", x.meter(m), wanted[m]);
        }
        x.lose(0, true);
        x.tick(1);
        x.lose(0, false);
        Due.is("a lost meter counts on", x.meter(0), 31);
    }

    private static void balanceTellsJustOne() {
        ColdWorks x = Setups.running();
        x.order(4, 0);
        x.deliver();
        x.lose(0, true);
        x.tick(1);
        Due.is("balance(0), lost", x.balance(0), 31);
        x.lose(0, false);
        long[] wanted = {31, 4, 0, 27};
        for (int m = 0; m < 4; m++) {
            Due.is("balance(" + m + "), read", x.balance(m), wanted[m]);
            x.lose(m, true);
            for (int other = 0; other < 4; other++) {
                Due.is(m + " lost: balance(" + other + ")", x.balance(other), wanted[other]);
            }
            x.lose(m, false);
        }
    }

    private static void balanceHidden() {
        ColdWorks x = Setups.running();
        long[] wanted = {15, 0, 0, 15};
        for (int a = 0; a < 4; a++) {
            for (int b = a + 1; b < 4; b++) {
                x.lose(a, true);
                x.lose(b, true);
                for (int m = 0; m < 4; m++) {
                    long due = m == a || m == b ? -9 : wanted[m];
                    Due.is(a + " and " + b + " lost: balance(" + m + ")", x.balance(m), due);
                }
                x.lose(a, false);
                Due.is("just " + b + " lost: balance(" + b + ")", x.balance(b), wanted[b]);
                x.lose(b, false);
            }
        }
    }

    private static void metersRefused() {
        ColdWorks x = Setups.running();
        for (int m : new int[] {-1, 4, -9, MIN, MAX}) {
            Due.is("meter(" + m + ")", x.meter(m), -1);
            Due.is("balance(" + m + ")", x.balance(m), -1);
        }
    }
}
