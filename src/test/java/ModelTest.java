import java.util.Arrays;
import java.util.Random;

/**
 * Long runs of calls, drawn from fixed seeds, on ColdWorks and on PlainWorks: each answer must be the same, and so must
 * all that can be read in the end. Wrong and wild arguments are among them, so a call that throws shows here.
 */
public final class ModelTest {
    /** With the 106 calls that read in the end a run stays within the 512 calls that the document promises. */
    private static final int RUNS = 4000, CALLS_OF_A_RUN = 400;
    private static final int[] WILD = {
        Integer.MIN_VALUE, Integer.MAX_VALUE, -1000, -10, -9, -2, -1, 0, 1, 9, 10, 61, 501, 5001
    };
    /** How often each call is drawn; the numbers are those of PlainWorks.CALLS. */
    private static final int[] WEIGHTS = {4, 3, 2, 10, 6, 4, 8, 4, 5, 3, 8, 24, 6, 4, 4, 3, 3, 8, 4, 3, 3, 3, 10, 1};

    public static void main(String[] args) {
        long[] seen = new long[5];
        for (int run = 0; run < RUNS; run++) {
            play(run, seen);
        }
        for (int state = 0; state < seen.length; state++) {
            Due.is("the runs come to state " + state, seen[state] > RUNS ? 1 : 0, 1);
        }
        Due.end("ModelTest");
    }

    private static void play(int run, long[] seen) {
        Random random = new Random(run);
        ColdWorks x = new ColdWorks();
        PlainWorks plain = new PlainWorks();
        for (int i = 0; i < CALLS_OF_A_RUN; i++) {
            int call = drawCall(random);
            int[] p = draw(call, random, plain);
            if (!same("run " + run + ", call " + i + ": ", x, plain, call, p)) {
                return;
            }
            seen[(int) plain.ask(22, new int[] {0})]++;
        }
        readAll("run " + run + ", in the end: ", x, plain);
    }

    private static boolean same(String when, ColdWorks x, PlainWorks plain, int call, int[] p) {
        long due = plain.ask(call, p);
        long got = ask(x, call, p);
        Due.is(when + PlainWorks.CALLS[call] + Arrays.toString(p), got, due);
        return got == due;
    }

    private static int drawCall(Random random) {
        int all = 0;
        for (int weight : WEIGHTS) {
            all += weight;
        }
        int at = random.nextInt(all);
        int call = 0;
        while (at >= WEIGHTS[call]) {
            at -= WEIGHTS[call];
            call++;
        }
        return call;
    }

    private static int[] draw(int call, Random random, PlainWorks plain) {
        int[] p = fitting(call, random, plain);
        if (random.nextInt(12) == 0) {
            p[random.nextInt(p.length)] = WILD[random.nextInt(WILD.length)];
        }
        return p;
    }

    /** Arguments that mostly are as told, and often such that liquid is made and the tank is near its room. */
    private static int[] fitting(int call, Random random, PlainWorks plain) {
        int[] p = new int[7];
        switch (call) {
            case 0:
                return corners(random);
            case 1:
                p[0] = random.nextInt(7);
                p[1] = random.nextInt(42);
                return p;
            case 2:
                p[0] = 1 + random.nextInt(8);
                p[1] = 1 + random.nextInt(50);
                return p;
            case 3:
                return setting(random, plain);
            case 11:
                p[0] = 1 + random.nextInt(random.nextInt(4) == 0 ? 60 : 5);
                return p;
            case 14:
                p[0] = 1 + random.nextInt(random.nextBoolean() ? 500 : 30);
                p[1] = random.nextInt(10);
                return p;
            case 17:
                p[0] = random.nextInt(random.nextBoolean() ? 5 : 310);
                return p;
            case 21:
                p[0] = random.nextInt(6);
                p[1] = random.nextInt(6);
                p[2] = random.nextInt(41);
                p[3] = random.nextInt(21);
                return p;
            default:
                p[0] = random.nextInt(10);
                p[1] = random.nextInt(4);
                return p;
        }
    }

    private static int[] corners(Random random) {
        int[] corners = new int[5];
        for (int i = 0; i < 5; i++) {
            corners[i] = random.nextInt(random.nextInt(20) == 0 ? 53 : 51);
        }
        Arrays.sort(corners);
        int[] p = new int[7];
        p[0] = random.nextInt(3);
        System.arraycopy(corners, 0, p, 1, 5);
        p[6] = random.nextInt(61);
        if (random.nextInt(10) == 0) {
            p[1 + random.nextInt(5)] = random.nextInt(51);
        }
        return p;
    }

    private static int[] setting(Random random, PlainWorks plain) {
        int tank = (int) plain.ask(22, new int[] {1});
        int[] p = new int[7];
        p[0] = random.nextInt(6);
        int[] v = {
            random.nextInt(4) - (random.nextInt(8) == 0 ? 9 : 0), random.nextBoolean() ? 40 : random.nextInt(41),
            random.nextInt(random.nextInt(3) == 0 ? 401 : 120),
            random.nextInt(4) == 0 ? random.nextInt(5010) : tank - 1 + random.nextInt(40),
            5 + random.nextInt(56), 1 + random.nextInt(random.nextBoolean() ? 5 : 30)
        };
        p[1] = v[p[0]];
        return p;
    }

    private static long ask(ColdWorks x, int call, int[] p) {
        switch (call) {
            case 0: return x.cooler(p[0], p[1], p[2], p[3], p[4], p[5], p[6]);
            case 1: return x.cold(p[0], p[1]);
            case 2: return x.cells(p[0], p[1]);
            case 3: return x.set(p[0], p[1]);
            case 4: return x.side(p[0], p[1]);
            case 5: return x.heat(p[0]);
            case 6: return x.start();
            case 7: return x.low();
            case 8: return x.high();
            case 9: return x.trip();
            case 10: return x.reset();
            case 11: return x.tick(p[0]);
            case 12: return x.adsorber(p[0], p[1]);
            case 13: return x.valve(p[0]);
            case 14: return x.order(p[0], p[1]);
            case 15: return x.deliver();
            case 16: return x.about(p[0], p[1]);
            case 17: return x.back(p[0]);
            case 18: return x.lose(p[0], p[1] != 0);
            case 19: return x.meter(p[0]);
            case 20: return x.balance(p[0]);
            case 21: return x.split(p[0], p[1], p[2], p[3]);
            case 22: return x.count(p[0]);
            default: return x.trace();
        }
    }

    /** The calls that only read, with all arguments that they take and one past them. */
    private static void readAll(String when, ColdWorks x, PlainWorks plain) {
        int[][] reads = {
            {4, 3, 9}, {5, 5, 1}, {12, 3, 4}, {13, 4, 1}, {16, 9, 4}, {19, 5, 1}, {20, 5, 1}, {22, 11, 1}, {23, 1, 1}
        };
        int[] p = new int[7];
        for (int[] read : reads) {
            for (p[0] = 0; p[0] < read[1]; p[0]++) {
                for (p[1] = 0; p[1] < read[2]; p[1]++) {
                    same(when, x, plain, read[0], p);
                }
            }
        }
    }
}
