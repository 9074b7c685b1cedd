/** Promises 4 (cells), 5 (set), 6 (side), 7 (heat), and the flow that they show. */
public final class ExchangerTest {
    private static final int MIN = Integer.MIN_VALUE, MAX = Integer.MAX_VALUE;

    public static void main(String[] args) {
        cellsBuildsAnew();
        cellsRefused();
        cellsOnlyWhenStopped();
        setTellsWhatItWas();
        setEdges();
        setRefused();
        setRoomNotBelowTheTank();
        setInEveryState();
        sideRefused();
        heatRefused();
        flowCellByCell();
        flowOfOneCell();
        flowOfEightCells();
        noCooler();
        liquidRounded();
        liquidAtMost();
        boilingItself();
        Due.end("ExchangerTest");
    }

    private static void cellsBuildsAnew() {
        ColdWorks x = Setups.tripped();
        Setups.settle(x);
        Due.is("heat(3) ahead of cells", x.heat(3), 2);
        Due.is("cells(8, 50)", x.cells(8, 50), 1);
        Due.is("count(4)", x.count(4), 8);
        for (int cell = 0; cell < 8; cell++) {
            Due.is("side(0, " + cell + ")", x.side(0, cell), 300);
            Due.is("side(1, " + cell + ")", x.side(1, cell), 300);
        }
        for (int i = 0; i < 4; i++) {
            Due.is("heat(" + i + ") behind cells", x.heat(i), 0);
        }
        Due.is("the tank stays", x.count(1), 15);
        Due.is("the inlet stays", x.set(2, 60), 60);
        Due.is("the cooler stays", x.set(0, 0), 0);
        Due.is("the load stays", x.adsorber(0, 1), 2);
        Due.is("cells(1, 1)", x.cells(1, 1), 1);
        Due.is("count(4)", x.count(4), 1);
        Due.is("side(0, 1)", x.side(0, 1), -1);
    }

    private static void cellsRefused() {
        ColdWorks x = new ColdWorks();
        for (int n : new int[] {0, 9, -1, MIN, MAX}) {
            Due.is("cells(" + n + ", 20)", x.cells(n, 20), -1);
        }
        for (int pass : new int[] {0, 51, -1, MIN, MAX}) {
            Due.is("cells(5, " + pass + ")", x.cells(5, pass), -1);
        }
        Due.is("count(4)", x.count(4), 4);
    }

    private static void cellsOnlyWhenStopped() {
        ColdWorks cooling = Setups.strong();
        cooling.start();
        ColdWorks[] all = {cooling, Setups.running(), Setups.low(), Setups.tripped()};
        for (ColdWorks x : all) {
            String state = "in state " + x.count(0) + ": ";
            Due.is(state + "cells(4, 20)", x.cells(4, 20), -2);
            Due.is(state + "cells(9, 20): BAD is first", x.cells(9, 20), -1);
            Due.is(state + "cells(4, 0): BAD is first", x.cells(4, 0), -1);
            Due.is(state + "count(4)", x.count(4), 1);
        }
        Due.is("heat(3) of the running one", all[1].heat(3), 2);
    }

    private static void setTellsWhatItWas() {
        ColdWorks x = new ColdWorks();
        x.cooler(0, 0, 0, 0, 0, 0, 0);
        x.cooler(0, 0, 0, 0, 0, 0, 0);
        int[] first = {-9, 0, 300, 500, 20, 6};
        int[] next = {1, 7, 8, 19, 10, 11};
        for (int what = 0; what < 6; what++) {
            Due.is("set(" + what + ", " + next[what] + ")", x.set(what, next[what]), first[what]);
        }
        for (int what = 0; what < 6; what++) {
            Due.is("set(" + what + ") again", x.set(what, next[what]), next[what]);
        }
        Due.is("set(0, NONE)", x.set(0, ColdWorks.NONE), 1);
        Due.is("set(0, 0)", x.set(0, 0), -9);
    }

    private static void setEdges() {
        int[][] ends = {{1, 0, 40}, {2, 0, 400}, {3, 10, 5000}, {4, 5, 60}, {5, 1, 30}};
        for (int[] e : ends) {
            ColdWorks x = new ColdWorks();
            int what = e[0];
            x.set(what, e[1]);
            Due.is("set(" + what + ", " + (e[1] - 1) + ")", x.set(what, e[1] - 1), -1);
            Due.is("set(" + what + ", " + (e[2] + 1) + ")", x.set(what, e[2] + 1), -1);
            Due.is("set(" + what + ", " + MIN + ")", x.set(what, MIN), -1);
            Due.is("set(" + what + ", " + MAX + ")", x.set(what, MAX), -1);
            Due.is("set(" + what + ", -9)", x.set(what, -9), -1);
            Due.is("set(" + what + ", " + e[2] + ")", x.set(what, e[2]), e[1]);
            Due.is("set(" + what + ", " + e[1] + ")", x.set(what, e[1]), e[2]);
        }
    }

    private static void setRefused() {
        ColdWorks x = new ColdWorks();
        Due.is("set(0, 0) without a cooler", x.set(0, 0), -1);
        x.cooler(0, 0, 0, 0, 0, 0, 0);
        for (int v : new int[] {-1, 1, 6, -8, -10, MIN, MAX}) {
            Due.is("set(0, " + v + ")", x.set(0, v), -1);
        }
        for (int what : new int[] {-1, 6, -9, MIN, MAX}) {
            Due.is("set(" + what + ", 10)", x.set(what, 10), -1);
        }
        Due.is("set(0, 0)", x.set(0, 0), -9);
    }

    private static void setRoomNotBelowTheTank() {
        ColdWorks x = Setups.running();
        Due.is("set(3, 14), 15 in the tank", x.set(3, 14), -1);
        Due.is("set(3, 15)", x.set(3, 15), 500);
        Due.is("set(3, 16)", x.set(3, 16), 15);
        Due.is("count(1)", x.count(1), 15);
    }

    private static void setInEveryState() {
        ColdWorks[] all = {Setups.strong(), Setups.running(), Setups.low(), Setups.tripped()};
        for (ColdWorks x : all) {
            String state = "in state " + x.count(0) + ": ";
            Due.is(state + "set(0, NONE)", x.set(0, ColdWorks.NONE), 0);
            Due.is(state + "set(1, 0)", x.set(1, 0), 40);
            Due.is(state + "set(2, 0)", x.set(2, 0), 60);
            Due.is(state + "set(3, 400)", x.set(3, 400), 500);
            Due.is(state + "set(4, 30)", x.set(4, 30), 20);
            Due.is(state + "set(5, 30)", x.set(5, 30), 6);
        }
    }

    private static void sideRefused() {
        ColdWorks x = new ColdWorks();
        for (int which : new int[] {-1, 2, MIN, MAX}) {
            Due.is("side(" + which + ", 0)", x.side(which, 0), -1);
        }
        for (int cell : new int[] {-1, 4, 7, 8, MIN, MAX}) {
            Due.is("side(0, " + cell + ")", x.side(0, cell), -1);
            Due.is("side(1, " + cell + ")", x.side(1, cell), -1);
        }
        Due.is("side(1, 3)", x.side(1, 3), 300);
    }

    private static void heatRefused() {
        ColdWorks x = new ColdWorks();
        for (int what : new int[] {-1, 4, MIN, MAX}) {
            Due.is("heat(" + what + ")", x.heat(what), -1);
        }
    }

    private static void sides(String when, ColdWorks x, int[] warm, int[] cold) {
        for (int i = 0; i < warm.length; i++) {
            Due.is(when + ": side(0, " + i + ")", x.side(0, i), warm[i]);
            Due.is(when + ": side(1, " + i + ")", x.side(1, i), cold[i]);
        }
    }

    private static void heats(String when, ColdWorks x, long[] wanted) {
        for (int i = 0; i < wanted.length; i++) {
            Due.is(when + ": heat(" + i + ")", x.heat(i), wanted[i]);
        }
    }

    /** Worked out by hand: two cells, pass 50, a throttle that cools by 10, the inlet at 100. */
    private static void flowCellByCell() {
        ColdWorks x = new ColdWorks();
        x.cooler(0, 0, 0, 0, 0, 0, 0);
        x.cells(2, 50);
        x.set(0, 0);
        x.set(1, 40);
        x.set(2, 100);
        x.start();
        sides("ahead of the first flow", x, new int[] {300, 300}, new int[] {300, 300});
        x.tick(1);
        sides("behind flow 1", x, new int[] {100, 300}, new int[] {300, 290});
        heats("behind flow 1", x, new long[] {100, 300, 10, 1});
        x.tick(1);
        sides("behind flow 2", x, new int[] {100, 200}, new int[] {295, 285});
        heats("behind flow 2", x, new long[] {200, 500, 20, 2});
        x.tick(1);
        sides("behind flow 3", x, new int[] {100, 197}, new int[] {243, 232});
        heats("behind flow 3", x, new long[] {300, 698, 30, 3});
        x.set(2, 400);
        x.tick(1);
        sides("behind flow 4", x, new int[] {400, 171}, new int[] {215, 204});
        heats("behind flow 4", x, new long[] {700, 870, 40, 4});
        x.tick(1);
        // Cell 0: 92 of 185 go over to the cold side; cell 1: 16 of 33 go over to the warm side.
        sides("behind flow 5", x, new int[] {400, 308}, new int[] {188, 177});
        heats("behind flow 5", x, new long[] {1100, 1177, 50, 5});
    }

    private static void flowOfOneCell() {
        ColdWorks x = Setups.strong();
        x.start();
        Due.is("the first flow makes", x.tick(1), 0);
        sides("behind flow 1", x, new int[] {60}, new int[] {240});
        Due.is("the second flow makes", x.tick(1), 15);
        sides("behind flow 2", x, new int[] {60}, new int[] {80});
        heats("behind flow 2", x, new long[] {120, 539, 60 - 19, 2});
        Due.is("the third flow makes", x.tick(1), 16);
        heats("behind flow 3", x, new long[] {180, 619, 41 - 20, 3});
    }

    private static void flowOfEightCells() {
        ColdWorks x = new ColdWorks();
        x.cells(8, 50);
        x.set(2, 100);
        x.start();
        x.tick(3);
        int[] warm = {100, 200, 250, 300, 300, 300, 300, 300};
        int[] cold = {250, 300, 300, 300, 300, 300, 300, 300};
        sides("eight cells", x, warm, cold);
        heats("eight cells", x, new long[] {300, 300 + 200 + 200, 0, 3});
    }

    private static void noCooler() {
        ColdWorks x = new ColdWorks();
        x.set(1, 40);
        x.start();
        x.tick(3);
        sides("without a cooler", x, new int[] {300, 300, 300, 300}, new int[] {300, 300, 300, 300});
        heats("without a cooler", x, new long[] {900, 900, 0, 3});
        x.cooler(0, 0, 0, 0, 0, 0, 0);
        x.tick(1);
        Due.is("a cooler that is not at the end", x.side(1, 3), 300);
        x.set(0, 0);
        x.tick(1);
        Due.is("a cooler at the end", x.side(1, 3), 290);
        x.set(1, 39);
        x.set(0, ColdWorks.NONE);
        x.tick(1);
        Due.is("none at the end again: heat(2)", x.heat(2), 10);
    }

    /** One cell, pass 1, no cooler; the cold side comes to 80, so that the warm side leaves as it came. */
    private static ColdWorks atInlet(int inlet) {
        ColdWorks x = new ColdWorks();
        x.cells(1, 1);
        x.set(2, inlet);
        x.start();
        x.tick(3);
        return x;
    }

    private static void liquidRounded() {
        ColdWorks x = atInlet(76);
        Due.is("4 below boiling: made", x.tick(2), 0);
        Due.is("4 below boiling: it goes back at boiling", x.side(1, 0), 80);
        Due.is("4 below boiling: count(0)", x.count(0), 1);
        x.set(2, 75);
        Due.is("the inlet comes in behind the flow", x.tick(1), 0);
        Due.is("5 below boiling: made", x.tick(1), 1);
        Due.is("5 below boiling: count(0)", x.count(0), 2);
        x.set(2, 71);
        x.tick(1);
        Due.is("9 below boiling: made", x.tick(1), 1);
        x.set(2, 70);
        x.tick(1);
        Due.is("10 below boiling: made", x.tick(1), 2);
    }

    private static void liquidAtMost() {
        int[][] made = {{45, 19}, {41, 19}, {40, 20}, {36, 20}, {35, 20}, {0, 20}};
        for (int[] m : made) {
            ColdWorks x = Setups.running();
            x.set(2, m[0]);
            x.tick(3);
            Due.is("inlet " + m[0] + ", cooled by 60: made", x.tick(1), m[1]);
            Due.is("inlet " + m[0] + ": it goes back at", x.side(1, 0), 80);
        }
    }

    private static void boilingItself() {
        int[][] goesBack = {{81, 81}, {80, 80}, {79, 80}};
        for (int[] g : goesBack) {
            ColdWorks x = atInlet(g[0]);
            long before = x.heat(2);
            Due.is("inlet " + g[0] + ": made", x.tick(1), 0);
            Due.is("inlet " + g[0] + ": it goes back at", x.side(1, 0), g[1]);
            Due.is("inlet " + g[0] + ": taken out", x.heat(2) - before, g[0] - g[1]);
            Due.is("inlet " + g[0] + ": count(0)", x.count(0), 1);
        }
    }
}
