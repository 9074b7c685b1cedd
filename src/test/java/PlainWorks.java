/**
 * The document told a second time, as flatly as possible, for ModelTest to compare with: no classes, no helper of
 * ColdWorks, numbers in the order in which the document tells them. Each call is one of ask()'s numbers.
 */
final class PlainWorks {
    static final String[] CALLS = {
        "cooler", "cold", "cells", "set", "side", "heat", "start", "low", "high", "trip", "reset", "tick", "adsorber",
        "valve", "order", "deliver", "about", "back", "lose", "meter", "balance", "split", "count", "trace"
    };

    private final int[][] coolers = new int[6][];
    private int coolerCount;
    private long trace;
    private int n = 4, k = 20;
    private int[] w = {300, 300, 300, 300}, c = {300, 300, 300, 300};
    private final int[] set = {-9, 0, 300, 500, 20, 6};
    private long[] heat = new long[4];
    private int state, stateTicks, trips, ticks;
    private final int[] valves = new int[3];
    private final int[][] adsorbers = {{1, 0, 0}, {0, 0, 0}};
    private int tank, bag;
    private long made, delivered, blown;
    private final int[][] orders = new int[8][];
    private int orderCount, day, missed;
    private final boolean[] lost = new boolean[4];

    long ask(int call, int[] p) {
        switch (call) {
            case 0: return cooler(p);
            case 1: return cold(p[0], p[1]);
            case 2: return cells(p[0], p[1]);
            case 3: return set(p[0], p[1]);
            case 4: return p[0] < 0 || p[0] > 1 || p[1] < 0 || p[1] >= n ? -1 : (p[0] == 0 ? w : c)[p[1]];
            case 5: return p[0] < 0 || p[0] > 3 ? -1 : heat[p[0]];
            case 6: return start();
            case 7: return state == 2 ? become(3) : -2;
            case 8: return state == 3 ? become(2) : -2;
            case 9: return state >= 1 && state <= 3 ? become(4) : -2;
            case 10: return reset();
            case 11: return tick(p[0]);
            case 12: return p[0] < 0 || p[0] > 1 || p[1] < 0 || p[1] > 2 ? -1 : adsorbers[p[0]][p[1]];
            case 13: return p[0] < 0 || p[0] > 2 ? -1 : valves[p[0]];
            case 14: return order(p[0], p[1]);
            case 15: return deliver();
            case 16: return p[0] < 0 || p[0] >= orderCount || p[1] < 0 || p[1] > 2 ? -1 : orders[p[0]][p[1]];
            case 17: return back(p[0]);
            case 18: return lose(p[0], p[1] != 0);
            case 19: return p[0] < 0 || p[0] > 3 ? -1 : lost[p[0]] ? -9 : meters()[p[0]];
            case 20: return balance(p[0]);
            case 21: return split(p[0], p[1], p[2], p[3]);
            case 22: return count(p[0]);
            default: return trace;
        }
    }

    private int cooler(int[] p) {
        if (p[0] < 0 || p[0] > 2) {
            return -1;
        }
        for (int i = 1; i <= 5 && p[0] > 0; i++) {
            if (p[i] < 0 || p[i] > 50 || (i > 1 && p[i] < p[i - 1])) {
                return -1;
            }
        }
        if (p[0] == 2 && (p[6] < 0 || p[6] > 60)) {
            return -1;
        }
        if (coolerCount == 6) {
            return -3;
        }
        coolers[coolerCount] = p.clone();
        return coolerCount++;
    }

    private boolean none(int cooler) {
        return cooler < 0 || cooler >= coolerCount;
    }

    private int coldness(int cooler, int d) {
        if (none(cooler)) {
            return 0;
        }
        int[] p = coolers[cooler];
        int all = d / 4;
        if (p[0] > 0) {
            int sum = 0;
            for (int i = 0; i < 5; i++) {
                int near = 10 - Math.abs(d - 10 * i);
                sum += near > 0 ? near * p[1 + i] : 0;
            }
            all += sum / 10;
        }
        return p[0] == 2 && all > p[6] ? p[6] : all;
    }

    private int cold(int cooler, int d) {
        if (none(cooler) || d < 0 || d > 40) {
            return -1;
        }
        trace += new int[] {1, 11, 111}[coolers[cooler][0]];
        return coldness(cooler, d);
    }

    private int cells(int cells, int pass) {
        if (cells < 1 || cells > 8 || pass < 1 || pass > 50) {
            return -1;
        }
        if (state != 0) {
            return -2;
        }
        n = cells;
        k = pass;
        w = new int[n];
        c = new int[n];
        java.util.Arrays.fill(w, 300);
        java.util.Arrays.fill(c, 300);
        heat = new long[4];
        return 1;
    }

    private int set(int what, int v) {
        int[] least = {0, 0, 0, Math.max(10, tank), 5, 1};
        int[] most = {coolerCount - 1, 40, 400, 5000, 60, 30};
        if (what < 0 || what > 5) {
            return -1;
        }
        if ((v < least[what] || v > most[what]) && !(what == 0 && v == -9)) {
            return -1;
        }
        int was = set[what];
        set[what] = v;
        return was;
    }

    private int become(int next) {
        trips += next == 4 ? 1 : 0;
        state = next;
        stateTicks = 0;
        return next;
    }

    private int start() {
        if (state != 0 || tank >= set[3] || (adsorbers[0][0] != 1 && adsorbers[1][0] != 1)) {
            return -2;
        }
        valves[0] = 1;
        valves[1] = 1;
        return become(1);
    }

    private int reset() {
        if (state != 4 || valves[0] != 0 || valves[1] != 0 || valves[2] != 1) {
            return -2;
        }
        valves[2] = 0;
        return become(0);
    }

    private int tick(int times) {
        if (times < 1 || times > 60) {
            return -1;
        }
        long before = made;
        for (int i = 0; i < times; i++) {
            ticks++;
            stateTicks++;
            regenerate(0);
            regenerate(1);
            if (state == 1 || state == 2 || (state == 3 && stateTicks % 2 != 0)) {
                flow();
            } else if (state == 4 && stateTicks <= 3) {
                valves[stateTicks - 1] = stateTicks == 3 ? 1 : 0;
            }
        }
        return (int) (made - before);
    }

    private void regenerate(int i) {
        int[] a = adsorbers[i];
        if (a[0] < 2) {
            return;
        }
        a[2]++;
        if (a[2] >= set[5]) {
            a[2] = 0;
            a[0] = a[0] == 2 ? 3 : 0;
            if (a[0] == 0) {
                a[1] = 0;
                a[0] = adsorbers[1 - i][0] == 1 ? 0 : 1;
            }
        }
    }

    private void flow() {
        for (int i = 0; i < n; i++) {
            int q = (w[i] - c[i]) * k / 100;
            w[i] -= q;
            c[i] += q;
        }
        int left = w[n - 1];
        int e = left - coldness(set[0], set[1]);
        int liquid = e < 80 ? Math.min(20, (80 - e) / 5) : 0;
        int goesBack = e < 80 ? 80 : e;
        heat[0] += set[2];
        heat[1] += c[0];
        heat[2] += left - goesBack;
        heat[3]++;
        for (int i = n - 1; i > 0; i--) {
            w[i] = w[i - 1];
        }
        w[0] = set[2];
        for (int i = 0; i < n - 1; i++) {
            c[i] = c[i + 1];
        }
        c[n - 1] = goesBack;
        for (int i = 0; i < liquid; i++) {
            keepOne();
        }
        if (liquid > 0 && state == 1) {
            become(2);
        }
        boolean noneIsOn = loadOne();
        if (noneIsOn || tank == set[3]) {
            become(4);
        }
    }

    private void keepOne() {
        made++;
        if (tank < set[3]) {
            tank++;
        } else if (bag < 300) {
            bag++;
        } else {
            blown++;
        }
    }

    private boolean loadOne() {
        int on = adsorbers[0][0] == 1 ? 0 : 1;
        adsorbers[on][1]++;
        if (adsorbers[on][1] < set[4]) {
            return false;
        }
        adsorbers[on][0] = 2;
        if (adsorbers[1 - on][0] != 0) {
            return true;
        }
        adsorbers[1 - on][0] = 1;
        return false;
    }

    private int order(int wanted, int by) {
        if (wanted < 1 || wanted > 500 || by < 0 || by > 9) {
            return -1;
        }
        if (orderCount == 8) {
            return -3;
        }
        orders[orderCount] = new int[] {wanted, by, 0};
        return orderCount++;
    }

    private int deliver() {
        if (day == 10) {
            return -2;
        }
        int good = 0;
        for (int i = 0; i < orderCount; i++) {
            int[] o = orders[i];
            if (o[1] == day && o[0] <= tank) {
                tank -= o[0];
                delivered += o[0];
                o[2] = 1;
                good++;
            } else if (o[1] == day) {
                o[2] = 2;
                missed++;
            }
        }
        day++;
        return good;
    }

    private int back(int much) {
        if (much < 1) {
            return -1;
        }
        if (much > bag || (long) tank + much > set[3]) {
            return -2;
        }
        bag -= much;
        tank += much;
        return tank;
    }

    private int lose(int meter, boolean is) {
        if (meter < 0 || meter > 3) {
            return -1;
        }
        int was = lost[meter] ? 1 : 0;
        lost[meter] = is;
        return was;
    }

    private long[] meters() {
        return new long[] {made, delivered, blown, tank + bag};
    }

    private long balance(int meter) {
        if (meter < 0 || meter > 3) {
            return -1;
        }
        boolean another = false;
        for (int i = 0; i < 4; i++) {
            another |= i != meter && lost[i];
        }
        return lost[meter] && another ? -9 : meters()[meter];
    }

    private int split(int one, int other, int drop, int price) {
        if (none(one) || none(other) || drop < 0 || drop > 40 || price < 0 || price > 20) {
            return -1;
        }
        return coldness(other, drop) - price > coldness(one, drop) ? 10 : 0;
    }

    private int count(int what) {
        int[] all = {state, tank, bag, coolerCount, n, orderCount, day, ticks, trips, missed};
        return what < 0 || what > 9 ? -1 : all[what];
    }
}
