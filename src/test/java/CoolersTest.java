/** Promises 2 (cooler), 3 (cold), 23 (split) and 25 (trace). */
public final class CoolersTest {
    private static final int MIN = Integer.MIN_VALUE, MAX = Integer.MAX_VALUE;

    public static void main(String[] args) {
        numbersAndFull();
        kinds();
        corners(1);
        corners(2);
        limits();
        throttleCold();
        wheelCold();
        brakedCold();
        coldRefused();
        splitTakesTheBest();
        splitRefused();
        traceOfEachKind();
        traceOfNothingElse();
        Due.end("CoolersTest");
    }

    private static void numbersAndFull() {
        ColdWorks x = new ColdWorks();
        for (int i = 0; i < 6; i++) {
            Due.is("cooler number " + i, x.cooler(i % 3, 0, 0, 0, 0, 0, 0), i);
            Due.is("count(3)", x.count(3), i + 1);
        }
        Due.is("a seventh throttle", x.cooler(0, 0, 0, 0, 0, 0, 0), -3);
        Due.is("a seventh wheel", x.cooler(1, 0, 0, 0, 0, 0, 0), -3);
        Due.is("a seventh that is bad", x.cooler(3, 0, 0, 0, 0, 0, 0), -1);
        Due.is("a seventh with bad corners", x.cooler(1, 1, 0, 0, 0, 0, 0), -1);
        Due.is("a seventh with a bad limit", x.cooler(2, 0, 0, 0, 0, 0, 61), -1);
        Due.is("count(3)", x.count(3), 6);
        Due.is("cold(5, 40)", x.cold(5, 40), 0);
        Due.is("cold(4, 40)", x.cold(4, 40), 10);
    }

    private static void kinds() {
        ColdWorks x = new ColdWorks();
        for (int kind : new int[] {-1, 3, -9, MIN, MAX}) {
            Due.is("cooler of kind " + kind, x.cooler(kind, 0, 0, 0, 0, 0, 0), -1);
        }
        Due.is("count(3)", x.count(3), 0);
        Due.is("a throttle's corners are not looked at", x.cooler(0, MAX, 9, -8, 7, MIN, -1), 0);
        Due.is("nor is its limit", x.cooler(0, 0, 0, 0, 0, 0, MAX), 1);
    }

    private static void corners(int kind) {
        ColdWorks x = new ColdWorks();
        int[][] wrong = {
            {-1, 0, 0, 0, 0}, {0, 0, 0, 0, 51}, {51, 51, 51, 51, 51}, {1, 0, 1, 1, 1}, {0, 1, 0, 1, 1},
            {0, 0, 1, 0, 1}, {0, 0, 0, 1, 0}, {0, 10, 20, 51, 52}, {MIN, 0, 0, 0, 0}, {0, 0, 0, 0, MAX},
            {0, 0, 0, -1, 0}, {50, 50, 50, 50, 49}
        };
        for (int[] w : wrong) {
            String call = "cooler(" + kind + ", " + w[0] + ", " + w[1] + ", " + w[2] + ", " + w[3] + ", " + w[4] + ")";
            Due.is(call, x.cooler(kind, w[0], w[1], w[2], w[3], w[4], 10), -1);
        }
        Due.is("count(3)", x.count(3), 0);
        Due.is("corners of 0", x.cooler(kind, 0, 0, 0, 0, 0, 10), 0);
        Due.is("corners of 50", x.cooler(kind, 50, 50, 50, 50, 50, 10), 1);
        Due.is("rising corners", x.cooler(kind, 0, 1, 1, 2, 50, 10), 2);
    }

    private static void limits() {
        ColdWorks x = new ColdWorks();
        for (int limit : new int[] {-1, 61, MIN, MAX}) {
            Due.is("braked, limit " + limit, x.cooler(2, 0, 0, 0, 0, 0, limit), -1);
        }
        Due.is("braked, limit 0", x.cooler(2, 0, 0, 0, 0, 0, 0), 0);
        Due.is("braked, limit 60", x.cooler(2, 0, 0, 0, 0, 0, 60), 1);
        Due.is("a wheel's limit is not looked at", x.cooler(1, 0, 0, 0, 0, 0, -1), 2);
        Due.is("a wheel's limit is not looked at", x.cooler(1, 50, 50, 50, 50, 50, 61), 3);
        Due.is("a wheel has no limit", x.cold(3, 40), 60);
    }

    private static void throttleCold() {
        ColdWorks x = new ColdWorks();
        x.cooler(0, 50, 50, 50, 50, 50, 0);
        for (int d = 0; d <= 40; d++) {
            Due.is("throttle, drop " + d, x.cold(0, d), d / 4);
        }
    }

    private static void wheelCold() {
        ColdWorks x = new ColdWorks();
        x.cooler(1, 0, 10, 20, 30, 40, 0);
        x.cooler(1, 1, 2, 4, 7, 50, 0);
        int[][] even = {{0, 0}, {1, 1}, {3, 3}, {4, 5}, {9, 11}, {10, 12}, {25, 31}, {39, 48}, {40, 50}};
        for (int[] e : even) {
            Due.is("even wheel, drop " + e[0], x.cold(0, e[0]), e[1]);
        }
        int[][] uneven = {
            {0, 1}, {5, 2}, {9, 3}, {10, 4}, {19, 7}, {20, 9}, {21, 9}, {29, 13}, {30, 14}, {35, 36}, {39, 54}, {40, 60}
        };
        for (int[] u : uneven) {
            Due.is("uneven wheel, drop " + u[0], x.cold(1, u[0]), u[1]);
        }
    }

    private static void brakedCold() {
        ColdWorks x = new ColdWorks();
        x.cooler(2, 1, 2, 4, 7, 50, 30);
        x.cooler(2, 1, 2, 4, 7, 50, 36);
        x.cooler(2, 1, 2, 4, 7, 50, 35);
        x.cooler(2, 1, 2, 4, 7, 50, 0);
        x.cooler(2, 1, 2, 4, 7, 50, 60);
        Due.is("below its limit", x.cold(0, 19), 7);
        Due.is("above its limit", x.cold(0, 35), 30);
        Due.is("at its limit", x.cold(1, 35), 36);
        Due.is("one above its limit", x.cold(2, 35), 35);
        Due.is("limit 0", x.cold(3, 0), 0);
        Due.is("limit 60", x.cold(4, 40), 60);
    }

    private static void coldRefused() {
        ColdWorks x = new ColdWorks();
        Due.is("cold(0, 0) without a cooler", x.cold(0, 0), -1);
        x.cooler(0, 0, 0, 0, 0, 0, 0);
        for (int c : new int[] {-1, 1, 5, 6, -9, MIN, MAX}) {
            Due.is("cold(" + c + ", 4)", x.cold(c, 4), -1);
        }
        for (int d : new int[] {-1, 41, MIN, MAX}) {
            Due.is("cold(0, " + d + ")", x.cold(0, d), -1);
        }
        Due.is("trace()", x.trace(), 0);
    }

    /** Coolers: 0 a throttle (10 at drop 40), 1 a wheel (50), 2 a wheel (30), 3 a braked one (9). */
    private static ColdWorks four() {
        ColdWorks x = new ColdWorks();
        x.cooler(0, 0, 0, 0, 0, 0, 0);
        x.cooler(1, 0, 10, 20, 30, 40, 0);
        x.cooler(1, 0, 0, 0, 0, 20, 0);
        x.cooler(2, 0, 10, 20, 30, 40, 9);
        return x;
    }

    private static void splitTakesTheBest() {
        ColdWorks x = four();
        Due.is("the other is better", x.split(0, 1, 40, 3), 10);
        Due.is("the one is better", x.split(1, 0, 40, 0), 0);
        Due.is("better by more than the price", x.split(0, 2, 40, 19), 10);
        Due.is("better by the price: the least share", x.split(0, 2, 40, 20), 0);
        Due.is("better by 20, price 0", x.split(2, 1, 40, 0), 10);
        Due.is("worse by 1, price 0", x.split(0, 3, 40, 0), 0);
        Due.is("better by 1, price 0", x.split(3, 0, 40, 0), 10);
        Due.is("better by 1, price 1", x.split(3, 0, 40, 1), 0);
        Due.is("the same cooler twice", x.split(1, 1, 40, 0), 0);
        Due.is("drop 0: none is better", x.split(0, 1, 0, 0), 0);
        Due.is("drop 4: 1 and 5", x.split(0, 1, 4, 3), 10);
        Due.is("drop 4: 1 and 5", x.split(0, 1, 4, 4), 0);
        Due.is("drop 30: 7 and 37, price 20", x.split(0, 1, 30, 20), 10);
    }

    private static void splitRefused() {
        ColdWorks x = four();
        for (int c : new int[] {-1, 4, -9, MIN, MAX}) {
            Due.is("split(" + c + ", 1, 40, 3)", x.split(c, 1, 40, 3), -1);
            Due.is("split(0, " + c + ", 40, 3)", x.split(0, c, 40, 3), -1);
        }
        for (int d : new int[] {-1, 41, MIN, MAX}) {
            Due.is("split(0, 1, " + d + ", 3)", x.split(0, 1, d, 3), -1);
        }
        for (int p : new int[] {-1, 21, MIN, MAX}) {
            Due.is("split(0, 1, 40, " + p + ")", x.split(0, 1, 40, p), -1);
        }
    }

    private static void traceOfEachKind() {
        ColdWorks x = four();
        Due.is("trace() at first", x.trace(), 0);
        x.cold(0, 40);
        Due.is("trace() behind a throttle", x.trace(), 1);
        x.cold(1, 0);
        Due.is("trace() behind a wheel", x.trace(), 12);
        x.cold(3, 40);
        Due.is("trace() behind a braked one", x.trace(), 123);
        x.cold(3, 0);
        x.cold(3, 0);
        x.cold(0, 0);
        Due.is("trace() behind three more", x.trace(), 346);
        Due.is("trace() asked again", x.trace(), 346);
    }

    private static void traceOfNothingElse() {
        ColdWorks x = four();
        x.cold(9, 0);
        x.cold(0, 41);
        x.split(1, 3, 40, 0);
        x.set(0, 3);
        x.set(1, 40);
        x.start();
        x.tick(5);
        Due.is("trace() without cold()", x.trace(), 0);
    }
}
