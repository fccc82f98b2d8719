import java.util.NoSuchElementException;

/**
 * Cross-docking: pallets that arrive are matched with orders that wait for their goods.
 * The numbered promises of the document say what each call does and answers.
 */
public final class CrossDock {
    private static final int MOST_ARRIVALS = 8;
    private static final int MOST_ORDERS = 8;
    private static final int MOST_PAIRS = MOST_ARRIVALS * MOST_ORDERS;
    private static final int LANES = 4;
    private static final int LAST_GOOD = 7;
    private static final int LAST_LOT = 9;
    private static final int LAST_TIME = 1000;
    private static final int LAST_RANK = 9;
    private static final int MOST_PALLETS = 6;
    private static final int ALL_LOTS = 1023;
    private static final int MOST_STEPS = 20000;

    private static final int TOUCHES_OF_PALLET = 2;
    private static final int TOUCHES_OF_FILLED_ORDER = 3;
    private static final int TOUCHES_OF_WHOLE_ARRIVAL = 1;

    // What keeps an arrival from an order, in the order in which it is asked.
    private static final int NOTHING = 0;
    private static final int OTHER_GOOD = 1;
    private static final int AFTER_DUE = 2;
    private static final int LOT_NOT_TAKEN = 3;
    private static final int BARRED = 4;
    private static final int LANE_FULL = 5;

    private final Arrival[] arrivals;
    private final Order[] orders;
    private final boolean[] laneFull;
    private final int[] ordersByRank;
    private final int[] arrivalsByTime;
    private final Search search;
    private final Pairs pairs;
    private int arrivalCount;
    private int orderCount;
    private boolean latestExact;
    private int latestSteps;

    public CrossDock() {
        // Every row is made here and used again, so that no later call but a refusal makes an object.
        arrivals = new Arrival[MOST_ARRIVALS];
        for (int i = 0; i < MOST_ARRIVALS; i++) {
            arrivals[i] = new Arrival();
        }
        orders = new Order[MOST_ORDERS];
        for (int i = 0; i < MOST_ORDERS; i++) {
            orders[i] = new Order();
        }
        laneFull = new boolean[LANES];
        ordersByRank = new int[MOST_ORDERS];
        arrivalsByTime = new int[MOST_ARRIVALS];
        search = new Search();
        pairs = new Pairs();
        arrivalCount = 0;
        orderCount = 0;
        latestExact = false;
        latestSteps = 0;
    }

    public int arrive(int good, int lot, int time, int pallets)
            throws IllegalArgumentException, UnsupportedOperationException {
        checkRange(good, 0, LAST_GOOD);
        checkRange(lot, 0, LAST_LOT);
        checkRange(time, 0, LAST_TIME);
        checkRange(pallets, 1, MOST_PALLETS);
        checkRoom(arrivalCount, MOST_ARRIVALS);
        Arrival made = arrivals[arrivalCount];
        made.good = good;
        made.lot = lot;
        made.time = time;
        made.pallets = pallets;
        arrivalCount++;
        return arrivalCount - 1;
    }

    public int order(int good, int n, int rank, int lane)
            throws IllegalArgumentException, UnsupportedOperationException {
        checkRange(good, 0, LAST_GOOD);
        checkRange(n, 1, MOST_PALLETS);
        checkRange(rank, 1, LAST_RANK);
        checkRange(lane, 0, LANES - 1);
        checkRoom(orderCount, MOST_ORDERS);
        Order made = orders[orderCount];
        made.good = good;
        made.pallets = n;
        made.rank = rank;
        made.lane = lane;
        made.due = LAST_TIME;
        made.lots = ALL_LOTS;
        orderCount++;
        return orderCount - 1;
    }

    public void wants(int order, int due, int lots) throws NoSuchElementException, IllegalArgumentException {
        checkThere(order, orderCount);
        checkRange(due, 0, LAST_TIME);
        checkRange(lots, 0, ALL_LOTS);
        orders[order].due = due;
        orders[order].lots = lots;
    }

    public void promised(int arrive, int n)
            throws NoSuchElementException, IllegalArgumentException, IllegalStateException {
        checkThere(arrive, arrivalCount);
        Arrival given = arrivals[arrive];
        checkRange(n, 0, given.pallets);
        if (n + pairs.palletsOf(arrive) > given.pallets) {
            throw new IllegalStateException("matches that stand hold too many pallets");
        }
        given.kept = n;
    }

    public boolean rule(int arrive, int order, boolean barred) throws NoSuchElementException {
        checkThere(arrive, arrivalCount);
        checkThere(order, orderCount);
        arrivals[arrive].setBarred(order, barred);
        return mayServe(arrive, order);
    }

    public int full(int lane, boolean on) throws IllegalArgumentException {
        checkRange(lane, 0, LANES - 1);
        laneFull[lane] = on;
        int there = 0;
        for (int o = 0; o < orderCount; o++) {
            if (orders[o].lane == lane) {
                there++;
            }
        }
        return there;
    }

    public int match(int steps) throws IllegalArgumentException {
        checkRange(steps, 0, MOST_STEPS);
        layOutPairs();
        latestExact = search.lookAtAll(steps);
        latestSteps = search.used;
        if (!latestExact) {
            search.chooseByRule();
        }
        pairs.replaceBy(search);
        return touchesSaved();
    }

    public boolean exact() {
        return latestExact;
    }

    public int bound() {
        int most = 0;
        for (int o = 0; o < orderCount; o++) {
            if (arrivalsFor(o) > 0) {
                most += TOUCHES_OF_PALLET * orders[o].pallets + TOUCHES_OF_FILLED_ORDER;
            }
        }
        for (int a = 0; a < arrivalCount; a++) {
            if (ordersFor(a) > 0) {
                most += TOUCHES_OF_WHOLE_ARRIVAL;
            }
        }
        return most;
    }

    public int steps() {
        return latestSteps;
    }

    public int pair(int i, int side) throws NoSuchElementException, IllegalArgumentException {
        checkThere(i, pairs.size);
        checkRange(side, 0, 2);
        if (side == 0) {
            return pairs.arrivalOf[i];
        }
        return side == 1 ? pairs.orderOf[i] : pairs.palletsIn[i];
    }

    public int undo(int i) throws NoSuchElementException {
        checkThere(i, pairs.size);
        int had = pairs.palletsIn[i];
        pairs.removeAt(i);
        return had;
    }

    public int split(int arrive, int pallets)
            throws NoSuchElementException, IllegalArgumentException,
            IllegalStateException, UnsupportedOperationException {
        checkThere(arrive, arrivalCount);
        Arrival old = arrivals[arrive];
        checkRange(pallets, 1, old.pallets - 1);
        if (pairs.palletsOf(arrive) > 0) {
            throw new IllegalStateException("the arrival is in a pair");
        }
        checkRoom(arrivalCount, MOST_ARRIVALS);
        old.moveTo(arrivals[arrivalCount], pallets);
        arrivalCount++;
        return arrivalCount - 1;
    }

    public int late(int arrive, int time) throws NoSuchElementException, IllegalArgumentException {
        checkThere(arrive, arrivalCount);
        checkRange(time, 0, LAST_TIME);
        arrivals[arrive].time = time;
        int undone = 0;
        // From the last pair down, so that those that move up have been asked already.
        for (int i = pairs.size - 1; i >= 0; i--) {
            if (pairs.arrivalOf[i] == arrive && isUnfit(arrive, pairs.orderOf[i])) {
                pairs.removeAt(i);
                undone++;
            }
        }
        return undone;
    }

    public int arrival(int arrive, int what) throws NoSuchElementException, IllegalArgumentException {
        checkThere(arrive, arrivalCount);
        checkRange(what, 0, 3);
        switch (what) {
            case 0:
                return arrivals[arrive].toGive() - pairs.palletsOf(arrive);
            case 1:
                return arrivals[arrive].time;
            case 2:
                return arrivals[arrive].pallets;
            default:
                return ordersFor(arrive);
        }
    }

    public int wanted(int order, int what) throws NoSuchElementException, IllegalArgumentException {
        checkThere(order, orderCount);
        checkRange(what, 0, 3);
        switch (what) {
            case 0:
                return orders[order].pallets - pairs.palletsFor(order);
            case 1:
                return orders[order].due;
            case 2:
                return arrivalsFor(order);
            default:
                return whatBarsAll(order);
        }
    }

    public int saved() {
        return touchesSaved();
    }

    public int count(int what) {
        switch (what) {
            case 0:
                return arrivalCount;
            case 1:
                return orderCount;
            case 2:
                return pairs.size;
            case 3:
                return pairs.palletsInAll();
            case 4:
                return fullLanes();
            default:
                return -1;
        }
    }

    private static void checkThere(int number, int howMany) {
        if (number < 0 || number >= howMany) {
            throw new NoSuchElementException("there is none of this number");
        }
    }

    private static void checkRange(int number, int least, int most) {
        if (number < least || number > most) {
            throw new IllegalArgumentException("a number is outside its range");
        }
    }

    private static void checkRoom(int howMany, int most) {
        if (howMany >= most) {
            throw new UnsupportedOperationException("there is no room");
        }
    }

    /** The first thing that keeps an arrival from serving an order. */
    private int obstacle(int arrive, int order) {
        Arrival giver = arrivals[arrive];
        Order taker = orders[order];
        if (giver.good != taker.good) {
            return OTHER_GOOD;
        }
        if (giver.time > taker.due) {
            return AFTER_DUE;
        }
        if (!taker.takesLot(giver.lot)) {
            return LOT_NOT_TAKEN;
        }
        if (giver.isBarredFor(order)) {
            return BARRED;
        }
        return laneFull[taker.lane] ? LANE_FULL : NOTHING;
    }

    private boolean mayServe(int arrive, int order) {
        return obstacle(arrive, order) == NOTHING;
    }

    /** Whether an arrival may not serve an order for another cause than its lane. */
    private boolean isUnfit(int arrive, int order) {
        int found = obstacle(arrive, order);
        return found != NOTHING && found != LANE_FULL;
    }

    /**
     * Each thing is asked of the arrivals that the things before it have left, so the arrival
     * that gets furthest tells where none is left any more.
     */
    private int whatBarsAll(int order) {
        int furthest = OTHER_GOOD;
        for (int a = 0; a < arrivalCount; a++) {
            int found = obstacle(a, order);
            if (found == NOTHING) {
                return NOTHING;
            }
            furthest = Math.max(furthest, found);
        }
        return furthest;
    }

    private int ordersFor(int arrive) {
        int served = 0;
        for (int o = 0; o < orderCount; o++) {
            if (mayServe(arrive, o)) {
                served++;
            }
        }
        return served;
    }

    private int arrivalsFor(int order) {
        int serving = 0;
        for (int a = 0; a < arrivalCount; a++) {
            if (mayServe(a, order)) {
                serving++;
            }
        }
        return serving;
    }

    private int fullLanes() {
        int found = 0;
        for (int lane = 0; lane < LANES; lane++) {
            if (laneFull[lane]) {
                found++;
            }
        }
        return found;
    }

    private int touchesSaved() {
        int touches = TOUCHES_OF_PALLET * pairs.palletsInAll();
        for (int o = 0; o < orderCount; o++) {
            if (pairs.palletsFor(o) == orders[o].pallets) {
                touches += TOUCHES_OF_FILLED_ORDER;
            }
        }
        for (int i = 0; i < pairs.size; i++) {
            if (pairs.palletsIn[i] == arrivals[pairs.arrivalOf[i]].toGive()) {
                touches += TOUCHES_OF_WHOLE_ARRIVAL;
            }
        }
        return touches;
    }

    private void layOutPairs() {
        sortOrders();
        sortArrivals();
        search.size = 0;
        for (int a = 0; a < arrivalCount; a++) {
            search.give[a] = arrivals[a].toGive();
        }
        for (int i = 0; i < orderCount; i++) {
            int order = ordersByRank[i];
            search.want[order] = orders[order].pallets;
            for (int k = 0; k < arrivalCount; k++) {
                if (mayServe(arrivalsByTime[k], order)) {
                    search.addPair(arrivalsByTime[k], order);
                }
            }
        }
    }

    // Both sorts let equals stand as they came, which is the order of their numbers.

    private void sortOrders() {
        for (int o = 0; o < orderCount; o++) {
            int at = o;
            while (at > 0 && orders[ordersByRank[at - 1]].rank > orders[o].rank) {
                ordersByRank[at] = ordersByRank[at - 1];
                at--;
            }
            ordersByRank[at] = o;
        }
    }

    private void sortArrivals() {
        for (int a = 0; a < arrivalCount; a++) {
            int at = a;
            while (at > 0 && arrivals[arrivalsByTime[at - 1]].time > arrivals[a].time) {
                arrivalsByTime[at] = arrivalsByTime[at - 1];
                at--;
            }
            arrivalsByTime[at] = a;
        }
    }

    private static final class Arrival {
        private int good;
        private int lot;
        private int time;
        private int pallets;
        private int kept;
        private int barredOrders;

        private int toGive() {
            return pallets - kept;
        }

        private boolean isBarredFor(int order) {
            return (barredOrders & (1 << order)) != 0;
        }

        private void setBarred(int order, boolean barred) {
            if (barred) {
                barredOrders |= 1 << order;
            } else {
                barredOrders &= ~(1 << order);
            }
        }

        private void moveTo(Arrival made, int moved) {
            int keptHere = Math.min(kept, pallets - moved);
            made.good = good;
            made.lot = lot;
            made.time = time;
            made.pallets = moved;
            made.kept = kept - keptHere;
            made.barredOrders = barredOrders;
            pallets -= moved;
            kept = keptHere;
        }
    }

    private static final class Order {
        private int good;
        private int pallets;
        private int rank;
        private int lane;
        private int due;
        private int lots;

        private boolean takesLot(int lot) {
            return (lots & (1 << lot)) != 0;
        }
    }

    /** The matches of the latest plan that stand, in the order that the pairs had in that plan. */
    private static final class Pairs {
        private final int[] arrivalOf = new int[MOST_PAIRS];
        private final int[] orderOf = new int[MOST_PAIRS];
        private final int[] palletsIn = new int[MOST_PAIRS];
        private int size;

        private void replaceBy(Search plan) {
            size = 0;
            for (int at = 0; at < plan.size; at++) {
                if (plan.chosen[at] > 0) {
                    arrivalOf[size] = plan.arrivalOf[at];
                    orderOf[size] = plan.orderOf[at];
                    palletsIn[size] = plan.chosen[at];
                    size++;
                }
            }
        }

        private void removeAt(int i) {
            for (int k = i + 1; k < size; k++) {
                arrivalOf[k - 1] = arrivalOf[k];
                orderOf[k - 1] = orderOf[k];
                palletsIn[k - 1] = palletsIn[k];
            }
            size--;
        }

        private int palletsOf(int arrive) {
            int sum = 0;
            for (int i = 0; i < size; i++) {
                if (arrivalOf[i] == arrive) {
                    sum += palletsIn[i];
                }
            }
            return sum;
        }

        private int palletsFor(int order) {
            int sum = 0;
            for (int i = 0; i < size; i++) {
                if (orderOf[i] == order) {
                    sum += palletsIn[i];
                }
            }
            return sum;
        }

        private int palletsInAll() {
            int sum = 0;
            for (int i = 0; i < size; i++) {
                sum += palletsIn[i];
            }
            return sum;
        }
    }

    /** Looks at the plans for the pairs that may be, which are told to it in their order. */
    private static final class Search {
        private final int[] arrivalOf = new int[MOST_PAIRS];
        private final int[] orderOf = new int[MOST_PAIRS];
        private final int[] give = new int[MOST_ARRIVALS];
        private final int[] want = new int[MOST_ORDERS];
        private final int[] giveLeft = new int[MOST_ARRIVALS];
        private final int[] wantLeft = new int[MOST_ORDERS];
        private final int[] taken = new int[MOST_PAIRS];
        private final int[] untried = new int[MOST_PAIRS];
        private final int[] chosen = new int[MOST_PAIRS];
        private int size;
        private int touches;
        private int mostTouches;
        private int used;

        private void addPair(int arrive, int order) {
            if (size < MOST_PAIRS) {
                arrivalOf[size] = arrive;
                orderOf[size] = order;
                size++;
            }
        }

        /** Whether the steps sufficed to look at every plan: then the best one is chosen. */
        private boolean lookAtAll(int limit) {
            putAllBack();
            mostTouches = -1;
            int at = -1;
            if (size > 0) {
                at = 0;
                untried[0] = greatest(0);
            }
            for (used = 0; used < limit; used++) {
                at = backToUntried(at);
                if (at < 0) {
                    return true;
                }
                take(at, untried[at]);
                untried[at]--;
                if (at + 1 < size) {
                    at++;
                    untried[at] = greatest(at);
                } else {
                    chooseIfBetter();
                }
            }
            return backToUntried(at) < 0;
        }

        private void chooseByRule() {
            putAllBack();
            for (int at = 0; at < size; at++) {
                take(at, greatest(at));
                chosen[at] = taken[at];
            }
        }

        private void putAllBack() {
            System.arraycopy(give, 0, giveLeft, 0, MOST_ARRIVALS);
            System.arraycopy(want, 0, wantLeft, 0, MOST_ORDERS);
            for (int at = 0; at < size; at++) {
                taken[at] = 0;
            }
            touches = 0;
        }

        private int greatest(int at) {
            return Math.min(giveLeft[arrivalOf[at]], wantLeft[orderOf[at]]);
        }

        /** The last pair, from this one back, with a number left to try; -1 if there is none. */
        private int backToUntried(int from) {
            for (int at = from; at >= 0; at--) {
                putBack(at);
                if (untried[at] >= 0) {
                    return at;
                }
            }
            return -1;
        }

        private void take(int at, int number) {
            giveLeft[arrivalOf[at]] -= number;
            wantLeft[orderOf[at]] -= number;
            taken[at] = number;
            touches += touchesBy(at);
        }

        private void putBack(int at) {
            touches -= touchesBy(at);
            giveLeft[arrivalOf[at]] += taken[at];
            wantLeft[orderOf[at]] += taken[at];
            taken[at] = 0;
        }

        /** What the latest number taken adds: it fills its order if nothing is left to want. */
        private int touchesBy(int at) {
            int number = taken[at];
            if (number == 0) {
                return 0;
            }
            int sum = TOUCHES_OF_PALLET * number;
            if (wantLeft[orderOf[at]] == 0) {
                sum += TOUCHES_OF_FILLED_ORDER;
            }
            if (number == give[arrivalOf[at]]) {
                sum += TOUCHES_OF_WHOLE_ARRIVAL;
            }
            return sum;
        }

        // Plans come with the greater numbers first, so of equally good ones the first is the best.
        private void chooseIfBetter() {
            if (touches > mostTouches) {
                mostTouches = touches;
                System.arraycopy(taken, 0, chosen, 0, size);
            }
        }
    }
}
