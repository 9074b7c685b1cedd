import java.util.Arrays;

/** Works that make gas liquid. The document DOC.md says, promise by promise, what each call answers. */
public final class ColdWorks {
    public static final int BAD = -1, STATE = -2, FULL = -3, NONE = -9;
    public static final int STOPPED = 0, COOLING = 1, RUNNING = 2, LOW = 3, TRIPPED = 4;

    private static final int THROTTLE = 0, WHEEL = 1, BRAKED = 2;
    private static final int MOST_COOLERS = 6, MOST_CORNER = 50, MOST_LIMIT = 60, MOST_DROP = 40;
    private static final int MOST_CELLS = 8, MOST_PASS = 50, MOST_INLET = 400;
    private static final int LEAST_ROOM = 10, MOST_ROOM = 5000;
    private static final int LEAST_FULL = 5, MOST_FULL = 60, MOST_HEAT = 30;
    private static final int MOST_TICKS = 60, MOST_PRICE = 20, SHARES = 10;
    private static final int MOST_WANTED = 500, DAYS = 10;
    private static final int METERS = 4, MADE = 0;

    private final Throttle[] coolers = new Throttle[MOST_COOLERS];
    private final Exchanger exchanger = new Exchanger();
    private final Controls controls = new Controls();
    private final Adsorbers adsorbers = new Adsorbers();
    private final Store store = new Store();
    private final Orders orders = new Orders();
    private final boolean[] lost = new boolean[METERS];
    private int coolerCount = 0;
    private int endCooler = NONE;
    private int endDrop = 0;
    private int inlet = 300;
    private int ticksEver = 0;
    private long traced = 0;

    public ColdWorks() {
    }

    // ---- coolers, the exchanger

    public int cooler(int kind, int a, int b, int c, int d, int e, int limit) {
        if (!within(kind, THROTTLE, BRAKED)) {
            return BAD;
        }
        if (kind != THROTTLE && !areCorners(a, b, c, d, e)) {
            return BAD;
        }
        if (kind == BRAKED && !within(limit, 0, MOST_LIMIT)) {
            return BAD;
        }
        if (coolerCount >= MOST_COOLERS) {
            return FULL;
        }
        coolers[coolerCount] = build(kind, a, b, c, d, e, limit);
        coolerCount++;
        return coolerCount - 1;
    }

    public int cold(int cooler, int drop) {
        if (!isCooler(cooler) || !within(drop, 0, MOST_DROP)) {
            return BAD;
        }
        // Only this call is traced: a flow and a split ask the coolers as well, but not by cold().
        traced += weightOf(cooler);
        return coldOf(cooler, drop);
    }

    public int cells(int n, int pass) {
        if (!within(n, 1, MOST_CELLS) || !within(pass, 1, MOST_PASS)) {
            return BAD;
        }
        if (controls.state != STOPPED) {
            return STATE;
        }
        exchanger.rebuild(n, pass);
        return 1;
    }

    public int set(int what, int v) {
        if (!maySet(what, v)) {
            return BAD;
        }
        int before = setting(what);
        change(what, v);
        return before;
    }

    public int side(int which, int cell) {
        if (!within(which, 0, 1) || !within(cell, 0, exchanger.length - 1)) {
            return BAD;
        }
        return which == 0 ? exchanger.warm[cell] : exchanger.chill[cell];
    }

    public long heat(int what) {
        switch (what) {
            case 0:
                return exchanger.inlets;
            case 1:
                return exchanger.outs;
            case 2:
                return exchanger.takenOut;
            case 3:
                return exchanger.flows;
            default:
                return BAD;
        }
    }

    // ---- states

    public int start() {
        if (controls.state != STOPPED || !adsorbers.anyOn() || store.isFull()) {
            return STATE;
        }
        return controls.begin();
    }

    public int low() {
        return controls.state == RUNNING ? controls.enter(LOW) : STATE;
    }

    public int high() {
        return controls.state == LOW ? controls.enter(RUNNING) : STATE;
    }

    public int trip() {
        if (controls.state == STOPPED || controls.state == TRIPPED) {
            return STATE;
        }
        return controls.shutDown();
    }

    public int reset() {
        if (controls.state != TRIPPED || !controls.vent) {
            return STATE;
        }
        return controls.settle();
    }

    public int tick(int n) {
        if (!within(n, 1, MOST_TICKS)) {
            return BAD;
        }
        int made = 0;
        for (int i = 0; i < n; i++) {
            made += oneTick();
        }
        return made;
    }

    public int adsorber(int a, int what) {
        return adsorbers.tell(a, what);
    }

    public int valve(int v) {
        switch (v) {
            case 0:
                return asNumber(controls.feed);
            case 1:
                return asNumber(controls.press);
            case 2:
                return asNumber(controls.vent);
            default:
                return BAD;
        }
    }

    // ---- orders, meters

    public int order(int n, int day) {
        if (!within(n, 1, MOST_WANTED) || !within(day, 0, DAYS - 1)) {
            return BAD;
        }
        return orders.accept(n, day);
    }

    public int deliver() {
        return orders.nextDay >= DAYS ? STATE : orders.endDay(store);
    }

    public int about(int order, int what) {
        return orders.tell(order, what);
    }

    public int back(int n) {
        if (n < 1) {
            return BAD;
        }
        if (n > store.bag || n > store.room - store.tank) {
            return STATE;
        }
        store.bag -= n;
        store.tank += n;
        return store.tank;
    }

    public int lose(int meter, boolean is) {
        if (!isMeter(meter)) {
            return BAD;
        }
        boolean was = lost[meter];
        lost[meter] = is;
        return asNumber(was);
    }

    public long meter(int meter) {
        if (!isMeter(meter)) {
            return BAD;
        }
        return lost[meter] ? NONE : store.reading(meter);
    }

    public long balance(int meter) {
        if (!isMeter(meter)) {
            return BAD;
        }
        if (!lost[meter]) {
            return store.reading(meter);
        }
        return lostMeters() == 1 ? toldByOthers(meter) : NONE;
    }

    public int split(int one, int other, int drop, int price) {
        if (!isCooler(one) || !isCooler(other)) {
            return BAD;
        }
        if (!within(drop, 0, MOST_DROP) || !within(price, 0, MOST_PRICE)) {
            return BAD;
        }
        return bestShare(coldOf(one, drop), coldOf(other, drop), price);
    }

    public int count(int what) {
        switch (what) {
            case 0:
                return controls.state;
            case 1:
                return store.tank;
            case 2:
                return store.bag;
            case 3:
                return coolerCount;
            case 4:
                return exchanger.length;
            case 5:
                return orders.taken;
            case 6:
                return orders.nextDay;
            case 7:
                return ticksEver;
            case 8:
                return controls.trips;
            case 9:
                return orders.missed;
            default:
                return BAD;
        }
    }

    public long trace() {
        return traced;
    }

    // ---- what the calls share

    private static boolean within(int v, int least, int most) {
        return v >= least && v <= most;
    }

    private static int asNumber(boolean is) {
        return is ? 1 : 0;
    }

    private static boolean isMeter(int meter) {
        return within(meter, 0, METERS - 1);
    }

    private static boolean areCorners(int a, int b, int c, int d, int e) {
        return a >= 0 && b >= a && c >= b && d >= c && e >= d && e <= MOST_CORNER;
    }

    private static Throttle build(int kind, int a, int b, int c, int d, int e, int limit) {
        if (kind == THROTTLE) {
            return new Throttle();
        }
        int[] corners = {a, b, c, d, e};
        return kind == WHEEL ? new Wheel(corners) : new Braked(corners, limit);
    }

    private boolean isCooler(int cooler) {
        return within(cooler, 0, coolerCount - 1);
    }

    private Throttle find(int cooler) {
        return isCooler(cooler) ? coolers[cooler] : null;
    }

    /** Where there is no such cooler nothing is cooled. */
    private int coldOf(int cooler, int drop) {
        Throttle body = find(cooler);
        return body == null ? 0 : body.coldAt(drop);
    }

    private int weightOf(int cooler) {
        Throttle body = find(cooler);
        return body == null ? 0 : body.traceWeight();
    }

    private static int bestShare(int coldOne, int coldOther, int price) {
        int best = 0;
        int bestWorth = SHARES * coldOne;
        for (int s = 1; s <= SHARES; s++) {
            int worth = (SHARES - s) * coldOne + s * coldOther - s * price;
            if (worth > bestWorth) {
                best = s;
                bestWorth = worth;
            }
        }
        return best;
    }

    private boolean maySet(int what, int v) {
        switch (what) {
            case 0:
                return v == NONE || isCooler(v);
            case 1:
                return within(v, 0, MOST_DROP);
            case 2:
                return within(v, 0, MOST_INLET);
            case 3:
                return within(v, LEAST_ROOM, MOST_ROOM) && v >= store.tank;
            case 4:
                return within(v, LEAST_FULL, MOST_FULL);
            case 5:
                return within(v, 1, MOST_HEAT);
            default:
                return false;
        }
    }

    private int setting(int what) {
        switch (what) {
            case 0:
                return endCooler;
            case 1:
                return endDrop;
            case 2:
                return inlet;
            case 3:
                return store.room;
            case 4:
                return adsorbers.fullLoad;
            default:
                return adsorbers.heatTicks;
        }
    }

    private void change(int what, int v) {
        switch (what) {
            case 0:
                endCooler = v;
                break;
            case 1:
                endDrop = v;
                break;
            case 2:
                inlet = v;
                break;
            case 3:
                store.room = v;
                break;
            case 4:
                adsorbers.fullLoad = v;
                break;
            default:
                adsorbers.heatTicks = v;
                break;
        }
    }

    private int oneTick() {
        ticksEver++;
        adsorbers.regenerate();
        return controls.passTick() ? flow() : 0;
    }

    private int flow() {
        int made = exchanger.pass(inlet, coldOf(endCooler, endDrop));
        store.takeIn(made);
        if (made > 0 && controls.state == COOLING) {
            controls.enter(RUNNING);
        }
        boolean oneIsOn = adsorbers.load();
        // One trip only, even where the adsorbers and the tank call for it in the same tick.
        if (!oneIsOn || store.isFull()) {
            controls.shutDown();
        }
        return made;
    }

    private int lostMeters() {
        int n = 0;
        for (int i = 0; i < METERS; i++) {
            n += asNumber(lost[i]);
        }
        return n;
    }

    /** The balance: MADE is all the other meters together. */
    private long toldByOthers(int meter) {
        long others = 0;
        for (int i = MADE + 1; i < METERS; i++) {
            if (i != meter) {
                others += store.reading(i);
            }
        }
        return meter == MADE ? others : store.reading(MADE) - others;
    }

    /** The kind that stands over the other two; each kind below asks the one over it first. */
    private static class Throttle {
        int coldAt(int drop) {
            return drop / 4;
        }

        /** What one asking by cold() brings to the trace, the kinds above counted in. */
        int traceWeight() {
            return 1;
        }
    }

    private static class Wheel extends Throttle {
        private static final int STEP = 10;
        private final int[] corners;

        Wheel(int[] corners) {
            this.corners = corners;
        }

        int coldAt(int drop) {
            int k = drop / STEP;
            int r = drop % STEP;
            return super.coldAt(drop) + ((STEP - r) * corner(k) + r * corner(k + 1)) / STEP;
        }

        int traceWeight() {
            return super.traceWeight() + 10;
        }

        /** Behind the last corner there is none; it is asked for with the weight 0 alone. */
        private int corner(int k) {
            return k >= 0 && k < corners.length ? corners[k] : 0;
        }
    }

    private static final class Braked extends Wheel {
        private final int limit;

        Braked(int[] corners, int limit) {
            super(corners);
            this.limit = limit;
        }

        int coldAt(int drop) {
            return Math.min(super.coldAt(drop), limit);
        }

        int traceWeight() {
            return super.traceWeight() + 100;
        }
    }

    /** The cells with their two sides, and the sums over all flows since they were built. */
    private static final class Exchanger {
        private static final int FIRST_CELLS = 4, FIRST_PASS = 20, FIRST_WARMTH = 300;
        private static final int BOILING = 80, MOST_MADE = 20;
        private final int[] warm = new int[MOST_CELLS];
        private final int[] chill = new int[MOST_CELLS];
        private int length;
        private int hundredths;
        private long inlets;
        private long outs;
        private long takenOut;
        private long flows;

        Exchanger() {
            rebuild(FIRST_CELLS, FIRST_PASS);
        }

        void rebuild(int n, int pass) {
            length = n;
            hundredths = pass;
            Arrays.fill(warm, FIRST_WARMTH);
            Arrays.fill(chill, FIRST_WARMTH);
            inlets = 0;
            outs = 0;
            takenOut = 0;
            flows = 0;
        }

        /** One flow: how much liquid it made. */
        int pass(int inlet, int cooling) {
            exchange();
            int left = warm[length - 1];
            int end = left - cooling;
            int goesBack = Math.max(end, BOILING);
            inlets += inlet;
            outs += chill[0];
            takenOut += left - goesBack;
            flows++;
            moveOn(inlet, goesBack);
            return Math.min((goesBack - end) / 5, MOST_MADE);
        }

        private void exchange() {
            for (int i = 0; i < length; i++) {
                int q = (warm[i] - chill[i]) * hundredths / 100;
                warm[i] -= q;
                chill[i] += q;
            }
        }

        private void moveOn(int inlet, int goesBack) {
            System.arraycopy(warm, 0, warm, 1, length - 1);
            warm[0] = inlet;
            System.arraycopy(chill, 1, chill, 0, length - 1);
            chill[length - 1] = goesBack;
        }
    }

    /** The state, how long it has lasted, and the valves. */
    private static final class Controls {
        private int state = STOPPED;
        private int ticksOfState = 0;
        private int trips = 0;
        private boolean feed = false;
        private boolean press = false;
        private boolean vent = false;

        int enter(int next) {
            state = next;
            ticksOfState = 0;
            return next;
        }

        int begin() {
            feed = true;
            press = true;
            return enter(COOLING);
        }

        int shutDown() {
            trips++;
            return enter(TRIPPED);
        }

        int settle() {
            vent = false;
            return enter(STOPPED);
        }

        /** Whether gas goes in this tick. */
        boolean passTick() {
            ticksOfState++;
            switch (state) {
                case COOLING:
                case RUNNING:
                    return true;
                case LOW:
                    return ticksOfState % 2 == 1;
                case TRIPPED:
                    moveValve();
                    return false;
                default:
                    return false;
            }
        }

        private void moveValve() {
            switch (ticksOfState) {
                case 1:
                    feed = false;
                    break;
                case 2:
                    press = false;
                    break;
                case 3:
                    vent = true;
                    break;
                default:
                    break;
            }
        }
    }

    private static final class Adsorber {
        private static final int READY = 0, ON = 1, HEATED = 2, COOLED = 3;
        private int how;
        private int load = 0;
        private int ticks = 0;

        Adsorber(int how) {
            this.how = how;
        }

        void become(int next) {
            how = next;
            ticks = 0;
        }

        /** Whether it became ready in this tick. */
        boolean goOn(int heatTicks) {
            if (how != HEATED && how != COOLED) {
                return false;
            }
            ticks++;
            // The number of ticks may have been set below what has passed already.
            if (ticks < heatTicks) {
                return false;
            }
            if (how == HEATED) {
                become(COOLED);
                return false;
            }
            become(READY);
            load = 0;
            return true;
        }

        int fact(int what) {
            switch (what) {
                case 0:
                    return how;
                case 1:
                    return load;
                case 2:
                    return ticks;
                default:
                    return BAD;
            }
        }
    }

    /** The two adsorbers, which take turns. */
    private static final class Adsorbers {
        private final Adsorber zero = new Adsorber(Adsorber.ON);
        private final Adsorber one = new Adsorber(Adsorber.READY);
        private int fullLoad = 20;
        private int heatTicks = 6;

        boolean anyOn() {
            return zero.how == Adsorber.ON || one.how == Adsorber.ON;
        }

        void regenerate() {
            step(zero);
            step(one);
        }

        private void step(Adsorber a) {
            if (a.goOn(heatTicks) && !anyOn()) {
                a.become(Adsorber.ON);
            }
        }

        /** A flow loads the one that is on: whether one is on behind it. */
        boolean load() {
            return zero.how == Adsorber.ON ? loadOne(zero, one) : loadOne(one, zero);
        }

        private boolean loadOne(Adsorber on, Adsorber other) {
            if (on.how != Adsorber.ON) {
                return false;
            }
            on.load++;
            if (on.load < fullLoad) {
                return true;
            }
            on.become(Adsorber.HEATED);
            if (other.how != Adsorber.READY) {
                return false;
            }
            other.become(Adsorber.ON);
            return true;
        }

        int tell(int a, int what) {
            switch (a) {
                case 0:
                    return zero.fact(what);
                case 1:
                    return one.fact(what);
                default:
                    return BAD;
            }
        }
    }

    /** The tank and the bag, and what went through them. */
    private static final class Store {
        private static final int BAG_ROOM = 300;
        private int room = 500;
        private int tank = 0;
        private int bag = 0;
        private long made = 0;
        private long delivered = 0;
        private long blown = 0;

        boolean isFull() {
            return tank >= room;
        }

        void takeIn(int liquid) {
            made += liquid;
            int toTank = Math.min(liquid, room - tank);
            int toBag = Math.min(liquid - toTank, BAG_ROOM - bag);
            tank += toTank;
            bag += toBag;
            blown += liquid - toTank - toBag;
        }

        /** Whether the tank had as much. */
        boolean handOver(int n) {
            if (n > tank) {
                return false;
            }
            tank -= n;
            delivered += n;
            return true;
        }

        long reading(int meter) {
            switch (meter) {
                case MADE:
                    return made;
                case 1:
                    return delivered;
                case 2:
                    return blown;
                default:
                    return tank + bag;
            }
        }
    }

    private static final class Orders {
        private static final int MOST_ORDERS = 8;
        private static final int WAITS = 0, DELIVERED = 1, MISSED = 2;
        private final int[] wanted = new int[MOST_ORDERS];
        private final int[] dayOf = new int[MOST_ORDERS];
        private final int[] how = new int[MOST_ORDERS];
        private int taken = 0;
        private int nextDay = 0;
        private int missed = 0;

        int accept(int n, int day) {
            if (taken >= MOST_ORDERS) {
                return FULL;
            }
            wanted[taken] = n;
            dayOf[taken] = day;
            how[taken] = WAITS;
            taken++;
            return taken - 1;
        }

        /** The next day's orders are settled from the store: how many were delivered. */
        int endDay(Store store) {
            int delivered = 0;
            for (int i = 0; i < taken; i++) {
                if (dayOf[i] == nextDay) {
                    delivered += settle(i, store);
                }
            }
            nextDay++;
            return delivered;
        }

        private int settle(int i, Store store) {
            if (store.handOver(wanted[i])) {
                how[i] = DELIVERED;
                return 1;
            }
            how[i] = MISSED;
            missed++;
            return 0;
        }

        int tell(int order, int what) {
            if (order < 0 || order >= taken) {
                return BAD;
            }
            switch (what) {
                case 0:
                    return wanted[order];
                case 1:
                    return dayOf[order];
                case 2:
                    return how[order];
                default:
                    return BAD;
            }
        }
    }
}
