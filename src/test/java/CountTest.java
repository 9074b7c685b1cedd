/** Promise 24 (count). */
public final class CountTest {
    public static void main(String[] args) {
        refused();
        eachOne();
        refusalsCountNothing();
        Due.end("CountTest");
    }

    private static void counts(String when, ColdWorks x, long[] wanted) {
        for (int what = 0; what < wanted.length; what++) {
            Due.is(when + ": count(" + what + ")", x.count(what), wanted[what]);
        }
    }

    private static void refused() {
        ColdWorks x = new ColdWorks();
        for (int what : new int[] {-1, 10, Integer.MIN_VALUE, Integer.MAX_VALUE}) {
            Due.is("count(" + what + ")", x.count(what), -1);
        }
    }

    private static void eachOne() {
        ColdWorks x = Setups.spilled();
        counts("spilled", x, new long[] {0, 10, 5, 1, 1, 0, 0, 5, 1, 0});
        x.order(4, 0);
        x.order(7, 0);
        x.order(1, 1);
        x.deliver();
        x.cooler(0, 0, 0, 0, 0, 0, 0);
        counts("delivered", x, new long[] {0, 6, 5, 2, 1, 3, 1, 5, 1, 1});
        x.cells(6, 9);
        x.start();
        x.tick(1);
        counts("started", x, new long[] {1, 6, 5, 2, 6, 3, 1, 6, 1, 1});
        x.trip();
        x.back(2);
        x.deliver();
        counts("tripped", x, new long[] {4, 7, 3, 2, 6, 3, 2, 6, 2, 1});
        x.tick(60);
        x.reset();
        counts("stopped", x, new long[] {0, 7, 3, 2, 6, 3, 2, 66, 2, 1});
    }

    private static void refusalsCountNothing() {
        ColdWorks x = Setups.spilled();
        x.cooler(3, 0, 0, 0, 0, 0, 0);
        x.cells(0, 0);
        x.order(0, 0);
        x.tick(0);
        x.trip();
        x.start();
        x.back(1);
        counts("refused", x, new long[] {0, 10, 5, 1, 1, 0, 0, 5, 1, 0});
    }
}
