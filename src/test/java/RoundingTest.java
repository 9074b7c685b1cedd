/** What is rounded, and which way; what is at most or at least so much; what is as good as another. */
public final class RoundingTest {
    public static void main(String[] args) {
        throttleRoundedDown();
        wheelAtItsCorners();
        wheelRoundedDown();
        wheelAndThrottleRoundedApart();
        brakedAtItsLimit();
        passRoundedTowardsZero();
        passAtItsEnds();
        liquidAroundBoiling();
        inletAtItsEnds();
        splitAroundThePrice();
        Due.end("RoundingTest");
    }

    /** "THROTTLE d by 4, rounded down" */
    private static void throttleRoundedDown() {
        ColdWorks x = new ColdWorks();
        x.cooler(0, 0, 0, 0, 0, 0, 0);
        int[][] dropAndCold = {{0, 0}, {1, 0}, {3, 0}, {4, 1}, {7, 1}, {8, 2}, {36, 9}, {39, 9}, {40, 10}};
        for (int[] c : dropAndCold) {
            Due.is("throttle, drop " + c[0], x.cold(0, c[0]), c[1]);
        }
    }

    /** "five CORNERS .. at DROPS 0, 10, 20, 30, 40": the throttle's 0, 2, 5, 7, 10 come to them. */
    private static void wheelAtItsCorners() {
        ColdWorks x = new ColdWorks();
        x.cooler(1, 3, 8, 21, 34, 49, 0);
        x.cooler(1, 50, 50, 50, 50, 50, 0);
        x.cooler(1, 0, 0, 0, 0, 0, 0);
        int[] cold = {3, 10, 26, 41, 59};
        int[] most = {50, 52, 55, 57, 60};
        int[] least = {0, 2, 5, 7, 10};
        for (int k = 0; k < 5; k++) {
            Due.is("wheel, drop " + 10 * k, x.cold(0, 10 * k), cold[k]);
            Due.is("corners of 50, drop " + 10 * k, x.cold(1, 10 * k), most[k]);
            Due.is("corners of 0, drop " + 10 * k, x.cold(2, 10 * k), least[k]);
        }
    }

    /** "10 - r times CORNER k and r times CORNER k + 1, by 10, rounded down": corners 0 and 1 from drop 0 to 10. */
    private static void wheelRoundedDown() {
        ColdWorks x = new ColdWorks();
        x.cooler(1, 0, 1, 1, 1, 1, 0);
        x.cooler(1, 0, 0, 0, 0, 1, 0);
        int[] first = {0, 0, 0, 0, 1, 1, 1, 1, 2, 2, 3};
        int[] last = {7, 7, 8, 8, 8, 8, 9, 9, 9, 9, 11};
        for (int r = 0; r <= 10; r++) {
            Due.is("from corner 0 to 1, drop " + r, x.cold(0, r), first[r]);
            Due.is("from corner 3 to 4, drop " + (30 + r), x.cold(1, 30 + r), last[r]);
        }
    }

    /** Drop 7: the throttle's 1.75 and the wheel's 0.7 would be 2 together, but each is rounded for itself. */
    private static void wheelAndThrottleRoundedApart() {
        ColdWorks x = new ColdWorks();
        x.cooler(1, 0, 1, 1, 1, 1, 0);
        Due.is("1.75 and 0.7", x.cold(0, 7), 1);
        x.cooler(1, 0, 5, 5, 5, 5, 0);
        Due.is("1.75 and 3.5", x.cold(1, 7), 4);
    }

    /** "BRAKED up, its LIMIT at most": the wheel over it cools by 50 at drop 0, by 60 at drop 40. */
    private static void brakedAtItsLimit() {
        for (int limit = 0; limit <= 60; limit++) {
            ColdWorks x = new ColdWorks();
            x.cooler(2, 50, 50, 50, 50, 50, limit);
            Due.is("limit " + limit + ", drop 0", x.cold(0, 0), limit < 50 ? limit : 50);
            Due.is("limit " + limit + ", drop 40", x.cold(0, 40), limit);
        }
    }

    /** Behind two flows of one cell without a cooler, the inlet v: the second had W = v and C = 300. */
    private static ColdWorks twoFlows(int pass, int v) {
        ColdWorks x = new ColdWorks();
        x.cells(1, pass);
        x.set(2, v);
        x.start();
        x.tick(2);
        return x;
    }

    /** "Q = (W - C) K by 100, rounded towards 0: W is Q less, C Q more." */
    private static void passRoundedTowardsZero() {
        int[][] passInletQ = {
            {1, 400, 1}, {1, 399, 0}, {1, 301, 0}, {1, 300, 0}, {1, 299, 0}, {1, 201, 0}, {1, 200, -1}, {1, 101, -1},
            {1, 100, -2}, {1, 0, -3}, {50, 303, 1}, {50, 302, 1}, {50, 301, 0}, {50, 299, 0}, {50, 298, -1}, {50, 297, -1},
            {50, 296, -2}, {3, 333, 0}, {3, 334, 1}, {3, 267, 0}, {3, 266, -1}, {49, 302, 0}, {49, 303, 1}, {49, 298, 0},
            {49, 297, -1}
        };
        for (int[] c : passInletQ) {
            ColdWorks x = twoFlows(c[0], c[1]);
            String when = "pass " + c[0] + ", " + c[1] + " and 300: ";
            Due.is(when + "heat(1)", x.heat(1), 300 + 300 + c[2]);
            Due.is(when + "side(1, 0)", x.side(1, 0), Math.max(c[1] - c[2], 80));
        }
    }

    /** "THE PASS K (1 .. 50 hundredths ..": the greatest difference, both ways, at either end. */
    private static void passAtItsEnds() {
        Due.is("pass 50, 400 and 300: heat(1)", twoFlows(50, 400).heat(1), 650);
        Due.is("pass 50, 0 and 300: heat(1)", twoFlows(50, 0).heat(1), 450);
        Due.is("pass 1, 400 and 300: heat(1)", twoFlows(1, 400).heat(1), 601);
        Due.is("pass 1, 0 and 300: heat(1)", twoFlows(1, 0).heat(1), 597);
    }

    /** One cell, pass 1; the cold side is at 80, so that the warm side leaves as it came: E is inlet less limit. */
    private static ColdWorks leavingAt(int inlet, int limit) {
        ColdWorks x = new ColdWorks();
        x.cells(1, 1);
        x.cooler(2, 50, 50, 50, 50, 50, limit);
        x.set(0, 0);
        x.set(1, 40);
        x.set(2, 20);
        x.start();
        x.tick(3);
        x.set(2, inlet);
        x.tick(1);
        return x;
    }

    /** "if E is below BOILING: LIQUID made is (BOILING - E) by 5, rounded down, 20 at most .. else none" */
    private static void liquidAroundBoiling() {
        int[][] inletLimitMade = {
            {100, 0, 0}, {81, 0, 0}, {80, 0, 0}, {79, 0, 0}, {76, 0, 0}, {75, 0, 1}, {71, 0, 1}, {70, 0, 2}, {5, 0, 15},
            {4, 0, 15}, {1, 0, 15}, {0, 0, 16}, {0, 1, 16}, {0, 4, 16}, {0, 5, 17}, {0, 15, 19}, {0, 19, 19}, {0, 20, 20},
            {0, 24, 20}, {0, 25, 20}, {0, 60, 20}, {140, 60, 0}, {136, 60, 0}, {135, 60, 1}, {40, 60, 20}, {41, 60, 19}
        };
        for (int[] c : inletLimitMade) {
            ColdWorks x = leavingAt(c[0], c[1]);
            int end = c[0] - c[1];
            String when = "E " + end + ", inlet " + c[0] + ": ";
            long before = x.heat(2);
            Due.is(when + "tick(1)", x.tick(1), c[2]);
            Due.is(when + "it goes back at", x.side(1, 0), end < 80 ? 80 : end);
            Due.is(when + "heat(2)", x.heat(2) - before, end < 80 ? c[0] - 80 : c[1]);
        }
    }

    /** "W of CELL 0 is THE INLET", "THE INLET 0 .. 400" */
    private static void inletAtItsEnds() {
        for (int v : new int[] {0, 1, 399, 400}) {
            ColdWorks x = new ColdWorks();
            x.set(2, v);
            x.start();
            Due.is("inlet " + v + ", no flow yet: side(0, 0)", x.side(0, 0), 300);
            x.tick(1);
            Due.is("inlet " + v + ": side(0, 0)", x.side(0, 0), v);
            Due.is("inlet " + v + ": heat(0)", x.heat(0), v);
        }
    }

    /** "by a price (0 .. 20)", "the least such s": the other one is better by the price, by one more, by one less. */
    private static void splitAroundThePrice() {
        for (int price = 0; price <= 20; price++) {
            ColdWorks x = new ColdWorks();
            x.cooler(2, 50, 50, 50, 50, 50, 20);
            x.cooler(2, 50, 50, 50, 50, 50, 20 + price - 1);
            x.cooler(2, 50, 50, 50, 50, 50, 20 + price);
            x.cooler(2, 50, 50, 50, 50, 50, 20 + price + 1);
            Due.is("better by less than " + price, x.split(0, 1, 40, price), 0);
            Due.is("better by " + price, x.split(0, 2, 40, price), 0);
            Due.is("better by more than " + price, x.split(0, 3, 40, price), 10);
            Due.is("worse, price " + price, x.split(3, 0, 40, price), 0);
            Due.is("with itself, price " + price, x.split(0, 0, 40, price), 0);
        }
    }
}
