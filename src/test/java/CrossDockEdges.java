import java.util.NoSuchElementException;

/**
 * The document's sentences that name a boundary, in the document's order, each by a test of its
 * own. A refused call, but for a few amid a longer run, is made on one of two equal objects, which
 * must be equal afterwards too.
 */
public final class CrossDockEdges {
    private interface Scene {
        CrossDock make();
    }

    private interface Use {
        void on(CrossDock x);
    }

    private static final Scene NEW = CrossDock::new;
    private static final Scene BUSY = CrossDockEdges::busy;
    private static final Scene CROWDED = CrossDockEdges::crowded;
    private static final Scene CROWDED_UNDONE = CrossDockEdges::crowdedUndone;

    public static void main(String[] args) {
        usedFor512Calls();
        goods();
        lanes();
        times();
        arrivalsAtMostEight();
        lotsOfArrivals();
        palletsOfArrivals();
        promisedAtFirstAndNeverMatched();
        ordersAtMostEight();
        palletsAndRanksOfOrders();
        dueAndLotsAtFirst();
        maySameGood();
        mayNoLaterThanDue();
        mayTakesLot();
        mayNotBarred();
        mayLaneNotFull();
        noArrivalGivesMore();
        noOrderGetsMore();
        touchesOfFilledOrders();
        touchesOfWholeArrivals();
        planOrderOfOrders();
        planOrderOfArrivals();
        plansByTouches();
        plansByNumbers();
        stepsAreNumbersTried();
        allWithinTheSteps();
        oneStepMoreNeeded();
        byRule();
        boundCounts();
        boundNotPassed();
        pairsOfMoreThanNothing();
        refusalsNumberBeforeRoom();
        refusalsNoneThereBeforeNumber();
        refusalsNumberBeforeState();
        refusalsStateBeforeRoom();
        newObject();
        objectsApart();
        refusedOnesTakeNoNumber();
        wantsOfOrdersThere();
        wantsLots();
        wantsReplacesAndUndoesNothing();
        promisedOfArrivalsThere();
        promisedBelowNoneOrMoreThanAll();
        promisedAgainstMatches();
        ruleOfThoseThere();
        ruleTellsWhetherItMay();
        ruleTwice();
        ruleUndoesNothing();
        fullTellsOrders();
        fullTwice();
        fullUndoesNothing();
        matchSteps();
        matchAllAnew();
        exactOfTheLatest();
        boundForNow();
        stepsNoMoreThanTold();
        pairThere();
        pairSides();
        undoThere();
        undoMovesUp();
        splitOfArrivalsThere();
        splitOneAndUp();
        splitAlike();
        splitPromisedStay();
        splitBarredForTheSame();
        splitNotInAPair();
        splitNoRoom();
        lateOfArrivalsThere();
        lateUpToTheDue();
        lateUndoesSeveral();
        lateAsksAllButLanes();
        lateLetsOthersStand();
        lateToTheSameTimeOrEarlier();
        arrivalThere();
        arrivalFree();
        arrivalServes();
        wantedThere();
        wantedStill();
        wantedFirstThingThatBars();
        wantedAskedOfThoseLeft();
        savedAsTheyAreNow();
        countOfAnother();
        countFromEmptyToFull();
        Checks.end("every boundary holds");
    }

    // ---- Scenes, and what is asked of them ----

    /**
     * Pairs: arrival 1 with order 1 (4 pallets), arrival 0 with order 0 (3 pallets). Arrival 0 has
     * one promised pallet and two free ones and is barred for order 1; lane 3 is full.
     */
    private static CrossDock busy() {
        CrossDock x = new CrossDock();
        x.arrive(2, 3, 10, 6);
        x.arrive(2, 4, 20, 4);
        x.arrive(5, 9, 1000, 2);
        x.order(2, 3, 2, 1);
        x.order(2, 4, 1, 2);
        x.order(5, 1, 9, 3);
        x.wants(0, 500, 1 << 3 | 1 << 4);
        x.promised(0, 1);
        x.rule(0, 1, true);
        x.full(3, true);
        x.match(20000);
        return x;
    }

    /** Eight arrivals and eight orders; pair i is of arrival i and order i, by rule. */
    private static CrossDock crowded() {
        CrossDock x = new CrossDock();
        for (int i = 0; i < 8; i++) {
            x.arrive(i, i, 100 + i, 6 - i % 2);
            x.order(i, i % 6 + 1, i + 1, i % 4);
        }
        x.match(50);
        return x;
    }

    private static CrossDock crowdedUndone() {
        CrossDock x = crowded();
        x.undo(0);
        return x;
    }

    private static CrossDock oneOfEach(int pallets, int promised, int wanted) {
        CrossDock x = new CrossDock();
        x.arrive(0, 0, 0, pallets);
        x.promised(0, promised);
        x.order(0, wanted, 1, 0);
        return x;
    }

    private static CrossDock arrivalsOf(int... pallets) {
        CrossDock x = new CrossDock();
        for (int i = 0; i < pallets.length; i++) {
            x.arrive(0, i, 10 + i, pallets[i]);
        }
        return x;
    }

    private static void refuses(Scene scene, String what, Class<? extends RuntimeException> want, Use call) {
        CrossDock used = scene.make();
        Checks.refused(what, want, () -> call.on(used));
        Checks.due(what + " is refused and the object", Probe.of(used), Probe.of(scene.make()));
    }

    private static void noSuch(Scene scene, String what, Use call) {
        refuses(scene, what, NoSuchElementException.class, call);
    }

    private static void illegal(Scene scene, String what, Use call) {
        refuses(scene, what, IllegalArgumentException.class, call);
    }

    private static void notNow(Scene scene, String what, Use call) {
        refuses(scene, what, IllegalStateException.class, call);
    }

    private static void noRoom(Scene scene, String what, Use call) {
        refuses(scene, what, UnsupportedOperationException.class, call);
    }

    private static void duePairs(String what, CrossDock x, int... sides) {
        Checks.due(what + ": pairs", x.count(2), sides.length / 3);
        for (int i = 0; i < sides.length / 3; i++) {
            Checks.duePair(what, x, i, sides[3 * i], sides[3 * i + 1], sides[3 * i + 2]);
        }
    }

    // ---- "An object is used for at most 512 calls" ----

    private static void usedFor512Calls() {
        CrossDock x = busy();
        // That were 11 calls; with three a round the last round ends with call 509.
        for (int calls = 11; calls < 509; calls += 3) {
            x.match(calls % 2 == 0 ? 20000 : 3);
            x.undo(0);
            x.late(2, calls);
        }
        Checks.due("call 510", x.count(2), 1);
        Checks.due("call 511", x.match(20000), 21);
        Checks.due("call 512", x.steps(), 65);
    }

    // ---- Terms: ranges ----

    private static void goods() {
        for (int n : Checks.outside(0, 7)) {
            illegal(BUSY, "arrive, good " + n, x -> x.arrive(n, 0, 0, 1));
            illegal(BUSY, "order, good " + n, x -> x.order(n, 1, 1, 0));
        }
        CrossDock x = new CrossDock();
        Checks.due("arrive, good 0", x.arrive(0, 1, 1, 1), 0);
        Checks.due("arrive, good 7", x.arrive(7, 1, 1, 1), 1);
        Checks.due("order, good 0", x.order(0, 1, 1, 0), 0);
        Checks.due("order, good 7", x.order(7, 1, 1, 0), 1);
    }

    private static void lanes() {
        for (int n : Checks.outside(0, 3)) {
            illegal(BUSY, "order, lane " + n, x -> x.order(0, 1, 1, n));
            illegal(BUSY, "full, lane " + n, x -> x.full(n, true));
            illegal(BUSY, "full off, lane " + n, x -> x.full(n, false));
        }
        CrossDock x = new CrossDock();
        Checks.due("order, lane 0", x.order(1, 1, 1, 0), 0);
        Checks.due("order, lane 3", x.order(1, 1, 1, 3), 1);
        Checks.due("full, lane 0", x.full(0, true), 1);
        Checks.due("full, lane 3", x.full(3, true), 1);
    }

    private static void times() {
        for (int n : Checks.outside(0, 1000)) {
            illegal(BUSY, "arrive, time " + n, x -> x.arrive(0, 0, n, 1));
            illegal(BUSY, "wants, due " + n, x -> x.wants(0, n, 0));
            illegal(BUSY, "late, time " + n, x -> x.late(0, n));
        }
        CrossDock x = new CrossDock();
        x.arrive(0, 0, 0, 1);
        x.arrive(0, 0, 1000, 1);
        x.order(0, 1, 1, 0);
        Checks.due("arrive, time 0", x.arrival(0, 1), 0);
        Checks.due("arrive, time 1000", x.arrival(1, 1), 1000);
        x.wants(0, 0, 1023);
        Checks.due("wants, due 0", x.wanted(0, 1), 0);
        x.wants(0, 1000, 1023);
        Checks.due("wants, due 1000", x.wanted(0, 1), 1000);
        Checks.due("late, time 1000", x.late(0, 1000), 0);
        Checks.due("late, now at 1000", x.arrival(0, 1), 1000);
        Checks.due("late, time 0", x.late(0, 0), 0);
        Checks.due("late, now at 0", x.arrival(0, 1), 0);
    }

    private static void arrivalsAtMostEight() {
        CrossDock x = new CrossDock();
        for (int i = 0; i < 8; i++) {
            Checks.due("arrivals as they come", x.arrive(0, 0, 0, 1), i);
        }
        noRoom(CROWDED, "a ninth arrival", y -> y.arrive(0, 0, 0, 1));
        noRoom(CROWDED_UNDONE, "a ninth arrival after undo", y -> y.arrive(0, 0, 0, 1));
    }

    private static void lotsOfArrivals() {
        for (int n : Checks.outside(0, 9)) {
            illegal(BUSY, "arrive, lot " + n, x -> x.arrive(0, n, 0, 1));
        }
        CrossDock x = new CrossDock();
        Checks.due("arrive, lot 0", x.arrive(0, 0, 0, 1), 0);
        Checks.due("arrive, lot 9", x.arrive(0, 9, 0, 1), 1);
    }

    private static void palletsOfArrivals() {
        for (int n : Checks.outside(1, 6)) {
            illegal(BUSY, "arrive, pallets " + n, x -> x.arrive(0, 0, 0, n));
        }
        CrossDock x = new CrossDock();
        x.arrive(0, 0, 0, 1);
        x.arrive(0, 0, 0, 6);
        Checks.due("arrive, one pallet", x.arrival(0, 2), 1);
        Checks.due("arrive, six pallets", x.arrival(1, 2), 6);
    }

    private static void promisedAtFirstAndNeverMatched() {
        CrossDock x = new CrossDock();
        x.arrive(0, 0, 0, 6);
        Checks.due("none promised at first", x.arrival(0, 0), 6);
        x.order(0, 6, 1, 0);
        x.promised(0, 5);
        x.match(20000);
        duePairs("five promised, exact", x, 0, 0, 1);
        x.match(0);
        duePairs("five promised, by rule", x, 0, 0, 1);
        x.undo(0);
        x.promised(0, 6);
        Checks.due("six promised, exact", x.match(20000), 0);
        duePairs("six promised, exact", x);
        Checks.due("six promised, by rule", x.match(0), 0);
        duePairs("six promised, by rule", x);
    }

    private static void ordersAtMostEight() {
        CrossDock x = new CrossDock();
        for (int i = 0; i < 8; i++) {
            Checks.due("orders as they come", x.order(0, 1, 1, 0), i);
        }
        noRoom(CROWDED, "a ninth order", y -> y.order(0, 1, 1, 0));
    }

    private static void palletsAndRanksOfOrders() {
        for (int n : Checks.outside(1, 6)) {
            illegal(BUSY, "order, pallets " + n, x -> x.order(0, n, 1, 0));
        }
        for (int n : Checks.outside(1, 9)) {
            illegal(BUSY, "order, rank " + n, x -> x.order(0, 1, n, 0));
        }
        CrossDock x = new CrossDock();
        Checks.due("order, one pallet, rank 9", x.order(0, 1, 9, 0), 0);
        Checks.due("order, six pallets, rank 1", x.order(0, 6, 1, 0), 1);
        Checks.due("one pallet is wanted", x.wanted(0, 0), 1);
        Checks.due("six pallets are wanted", x.wanted(1, 0), 6);
    }

    private static void dueAndLotsAtFirst() {
        CrossDock x = new CrossDock();
        x.order(0, 1, 1, 0);
        Checks.due("due at first", x.wanted(0, 1), 1000);
        for (int lot = 0; lot < 10; lot += 9) {
            x.arrive(0, lot, 1000, 1);
        }
        Checks.due("all lots at first, to the last time", x.wanted(0, 2), 2);
    }

    // ---- Terms: an arrival MAY serve an order ----

    private static void maySameGood() {
        CrossDock x = new CrossDock();
        x.arrive(0, 0, 0, 1);
        x.arrive(7, 0, 0, 1);
        x.order(0, 1, 1, 0);
        x.order(7, 1, 1, 0);
        Checks.due("good 0 for good 0", x.rule(0, 0, false), true);
        Checks.due("good 0 for good 7", x.rule(0, 1, false), false);
        Checks.due("good 7 for good 0", x.rule(1, 0, false), false);
        Checks.due("good 7 for good 7", x.rule(1, 1, false), true);
    }

    private static void mayNoLaterThanDue() {
        CrossDock x = new CrossDock();
        x.arrive(0, 0, 500, 1);
        x.order(0, 1, 1, 0);
        x.wants(0, 501, 1023);
        Checks.due("due one later", x.rule(0, 0, false), true);
        x.wants(0, 500, 1023);
        Checks.due("due at its time", x.rule(0, 0, false), true);
        x.wants(0, 499, 1023);
        Checks.due("due one earlier", x.rule(0, 0, false), false);
        x.late(0, 0);
        x.wants(0, 0, 1023);
        Checks.due("both at 0", x.rule(0, 0, false), true);
        x.late(0, 1);
        Checks.due("1 for 0", x.rule(0, 0, false), false);
    }

    private static void mayTakesLot() {
        for (int lot = 0; lot < 10; lot++) {
            CrossDock x = new CrossDock();
            x.arrive(0, lot, 0, 1);
            x.order(0, 1, 1, 0);
            x.wants(0, 1000, 1 << lot);
            Checks.due("its lot alone, " + lot, x.rule(0, 0, false), true);
            x.wants(0, 1000, 1023 - (1 << lot));
            Checks.due("all but its lot, " + lot, x.rule(0, 0, false), false);
        }
    }

    private static void mayNotBarred() {
        CrossDock x = new CrossDock();
        for (int i = 0; i < 8; i++) {
            x.arrive(0, 0, 0, 1);
            x.order(0, 1, 1, 0);
        }
        x.rule(0, 7, true);
        x.rule(7, 0, true);
        Checks.due("first arrival, barred for the last order", x.arrival(0, 3), 7);
        Checks.due("last arrival, barred for the first order", x.arrival(7, 3), 7);
        Checks.due("another arrival", x.arrival(1, 3), 8);
        Checks.due("first order", x.wanted(0, 2), 7);
        Checks.due("last order", x.wanted(7, 2), 7);
        Checks.due("another order", x.wanted(1, 2), 8);
        Checks.due("the first two are not barred", x.rule(0, 0, false), true);
        Checks.due("the last two are not barred", x.rule(7, 7, false), true);
    }

    private static void mayLaneNotFull() {
        CrossDock x = new CrossDock();
        x.arrive(0, 0, 0, 1);
        for (int lane = 0; lane < 4; lane++) {
            x.order(0, 1, 1, lane);
        }
        for (int lane = 0; lane < 4; lane++) {
            x.full(lane, true);
            Checks.due("its lane is full", x.rule(0, lane, false), false);
            Checks.due("the other lanes are not", x.arrival(0, 3), 3);
            x.full(lane, false);
        }
    }

    // ---- Terms: what a match is ----

    private static void noArrivalGivesMore() {
        CrossDock x = arrivalsOf(6);
        x.promised(0, 1);
        for (int i = 0; i < 3; i++) {
            x.order(0, 2, 1, i);
        }
        x.match(20000);
        duePairs("five to give, exact", x, 0, 0, 2, 0, 1, 2, 0, 2, 1);
        x.match(0);
        duePairs("five to give, by rule", x, 0, 0, 2, 0, 1, 2, 0, 2, 1);
        Checks.due("nothing is free", x.arrival(0, 0), 0);
    }

    private static void noOrderGetsMore() {
        CrossDock x = arrivalsOf(2, 2, 2);
        x.order(0, 5, 1, 0);
        x.match(0);
        duePairs("five wanted, by rule", x, 0, 0, 2, 1, 0, 2, 2, 0, 1);
        x.match(20000);
        duePairs("five wanted, exact", x, 0, 0, 2, 1, 0, 2, 2, 0, 1);
        Checks.due("nothing is wanted", x.wanted(0, 0), 0);
        Checks.due("one is free", x.arrival(2, 0), 1);
    }

    private static void touchesOfFilledOrders() {
        Checks.due("a pallet short of filled", oneOfEach(6, 1, 6).match(20000), 5 * 2 + 1);
        Checks.due("filled, a pallet left", oneOfEach(6, 0, 5).match(20000), 5 * 2 + 3);
        Checks.due("one pallet, filled", oneOfEach(2, 0, 1).match(20000), 2 + 3);
        CrossDock x = arrivalsOf(2, 2);
        x.order(0, 3, 1, 0);
        Checks.due("filled by two arrivals", x.match(20000), 3 * 2 + 3 + 1);
        x = arrivalsOf(1, 1);
        x.order(0, 3, 1, 0);
        Checks.due("two arrivals, a pallet short", x.match(20000), 2 * 2 + 2);
    }

    private static void touchesOfWholeArrivals() {
        Checks.due("a pallet short of all", oneOfEach(6, 0, 5).match(20000), 5 * 2 + 3);
        Checks.due("all but the promised one", oneOfEach(6, 1, 5).match(20000), 5 * 2 + 3 + 1);
        Checks.due("all six", oneOfEach(6, 0, 6).match(20000), 6 * 2 + 3 + 1);
        Checks.due("nothing to give is no match", oneOfEach(6, 6, 6).match(20000), 0);
        Checks.due("nothing to give, by rule", oneOfEach(6, 6, 6).match(0), 0);
        CrossDock x = arrivalsOf(2);
        x.order(0, 1, 1, 0);
        x.order(0, 1, 1, 0);
        Checks.due("all in two matches is in none", x.match(20000), 2 * 2 + 3 + 3);
    }

    // ---- Terms: plans ----

    private static void planOrderOfOrders() {
        CrossDock x = arrivalsOf(3);
        x.order(0, 1, 9, 0);
        x.order(0, 1, 1, 0);
        x.order(0, 1, 9, 0);
        x.match(20000);
        duePairs("rank 1 before 9, equal ranks by number", x, 0, 1, 1, 0, 0, 1, 0, 2, 1);
        x.match(0);
        duePairs("the same by rule", x, 0, 1, 1, 0, 0, 1, 0, 2, 1);
        x = arrivalsOf(4);
        for (int i = 0; i < 4; i++) {
            x.order(0, 1, 9 - 2 * i, 0);
        }
        x.match(20000);
        duePairs("the last has the first rank", x, 0, 3, 1, 0, 2, 1, 0, 1, 1, 0, 0, 1);
        x = arrivalsOf(3);
        x.order(0, 1, 1, 0);
        x.order(0, 1, 9, 0);
        x.order(0, 1, 5, 0);
        x.match(20000);
        duePairs("the last has the middle rank", x, 0, 0, 1, 0, 2, 1, 0, 1, 1);
    }

    private static void planOrderOfArrivals() {
        CrossDock x = new CrossDock();
        x.arrive(0, 0, 1000, 1);
        x.arrive(0, 0, 0, 1);
        x.arrive(0, 0, 1000, 1);
        x.arrive(0, 0, 999, 1);
        x.order(0, 4, 1, 0);
        x.match(20000);
        duePairs("by time, equal times by number", x, 1, 0, 1, 3, 0, 1, 0, 0, 1, 2, 0, 1);
        x.match(0);
        duePairs("the same by rule", x, 1, 0, 1, 3, 0, 1, 0, 0, 1, 2, 0, 1);
        x.late(1, 1000);
        x.match(20000);
        duePairs("equal times since late", x, 3, 0, 1, 0, 0, 1, 1, 0, 1, 2, 0, 1);
    }

    private static void plansByTouches() {
        CrossDock x = arrivalsOf(3, 2);
        x.order(0, 2, 1, 0);
        Checks.due("one touch more beats a greater first number", x.match(20000), 2 * 2 + 3 + 1);
        duePairs("one touch more", x, 1, 0, 2);
        x = arrivalsOf(3);
        x.order(0, 6, 1, 0);
        x.order(0, 3, 2, 0);
        Checks.due("a filled order beats a better rank", x.match(20000), 3 * 2 + 3 + 1);
        duePairs("a filled order", x, 0, 1, 3);
        x = arrivalsOf(3);
        x.order(0, 6, 1, 0);
        x.order(0, 4, 2, 0);
        Checks.due("none can be filled", x.match(20000), 3 * 2 + 1);
        duePairs("none can be filled, the better rank", x, 0, 0, 3);
    }

    private static void plansByNumbers() {
        CrossDock x = arrivalsOf(3, 2, 2);
        x.order(0, 2, 1, 0);
        x.match(20000);
        duePairs("equal touches, first equal, second greater", x, 1, 0, 2);
        x = arrivalsOf(1);
        x.order(0, 1, 5, 0);
        x.order(0, 1, 5, 0);
        x.match(20000);
        duePairs("equal touches, first greater", x, 0, 0, 1);
        x = arrivalsOf(2, 2);
        x.order(0, 1, 5, 0);
        x.order(0, 1, 5, 0);
        x.match(20000);
        duePairs("equal touches, third greater", x, 0, 0, 1, 0, 1, 1);
    }

    // ---- Terms: matching ----

    private static int stepsOf(CrossDock x, int told) {
        x.match(told);
        return x.steps();
    }

    private static void stepsAreNumbersTried() {
        Checks.due("no pair may be", stepsOf(new CrossDock(), 20000), 0);
        Checks.due("a pair with only 0 to try", stepsOf(oneOfEach(6, 6, 6), 20000), 1);
        Checks.due("a pair with 1 and 0", stepsOf(oneOfEach(6, 5, 6), 20000), 2);
        Checks.due("as many as are wanted", stepsOf(oneOfEach(6, 0, 1), 20000), 2);
        Checks.due("a pair with 6 to 0", stepsOf(oneOfEach(6, 0, 6), 20000), 7);
        CrossDock x = arrivalsOf(1, 1);
        x.order(0, 1, 1, 0);
        // The first pair 1, behind it 0; the first pair 0, behind it 1 and 0.
        Checks.due("two pairs of one order", stepsOf(x, 20000), 5);
        x.undo(0);
        x.promised(0, 1);
        Checks.due("two pairs, the first of nothing", stepsOf(x, 20000), 3);
        Checks.due("three pairs", stepsOf(busy(), 20000), 65);
    }

    private static void allWithinTheSteps() {
        CrossDock x = busy();
        Checks.due("as many steps as are needed", x.match(65), 21);
        Checks.due("as many steps as are needed are exact", x.exact(), true);
        Checks.due("and all taken", x.steps(), 65);
        Checks.due("one step more is not taken", stepsOf(x, 66), 65);
        x = new CrossDock();
        Checks.due("no pair, no step", x.match(0), 0);
        Checks.due("no pair, no step is exact", x.exact(), true);
        x.arrive(0, 0, 0, 1);
        x.order(1, 1, 1, 0);
        x.match(0);
        Checks.due("no pair that may be, no step", x.exact(), true);
    }

    private static void oneStepMoreNeeded() {
        CrossDock x = busy();
        x.match(64);
        Checks.due("one step short is not exact", x.exact(), false);
        Checks.due("one step short", x.steps(), 64);
        x.match(0);
        Checks.due("no step is not exact", x.exact(), false);
        Checks.due("no step", x.steps(), 0);
        x = oneOfEach(1, 1, 1);
        x.match(0);
        Checks.due("no step for a pair with only 0 to try", x.exact(), false);
        x = crowded();
        x.match(20000);
        Checks.due("more than the most steps", x.exact(), false);
        Checks.due("the most steps", x.steps(), 20000);
    }

    private static void byRule() {
        CrossDock x = arrivalsOf(3, 2);
        x.order(0, 2, 1, 0);
        // 2 behind it 0; 1 behind it 1, 0; 0 behind it 2, 1, 0.
        Checks.due("by rule, one step short", x.match(8), 2 * 2 + 3);
        duePairs("by rule, one step short", x, 0, 0, 2);
        Checks.due("exact, just enough", x.match(9), 2 * 2 + 3 + 1);
        duePairs("exact, just enough", x, 1, 0, 2);
        Checks.due("by rule after exact", x.match(0), 2 * 2 + 3);
        duePairs("by rule after exact", x, 0, 0, 2);
    }

    private static void boundCounts() {
        CrossDock x = new CrossDock();
        Checks.due("bound of nothing", x.bound(), 0);
        x.arrive(0, 0, 10, 1);
        Checks.due("bound without an order", x.bound(), 0);
        x.order(1, 6, 1, 0);
        Checks.due("bound without a pair that may be", x.bound(), 0);
        x.order(0, 1, 1, 0);
        Checks.due("bound of the least pair", x.bound(), 2 * 1 + 3 + 1);
        x.order(0, 6, 1, 0);
        Checks.due("an arrival with two pairs counts once", x.bound(), 2 * 1 + 3 + 2 * 6 + 3 + 1);
        x.arrive(0, 0, 10, 6);
        Checks.due("orders with two pairs count once", x.bound(), 2 * 1 + 3 + 2 * 6 + 3 + 2);
        CrossDock all = new CrossDock();
        for (int i = 0; i < 8; i++) {
            all.arrive(0, 0, 0, 6);
            all.order(0, 6, 1, 0);
        }
        Checks.due("the greatest bound", all.bound(), 8 * 15 + 8);
        Checks.due("and it is reached", all.match(0), 8 * 15 + 8);
    }

    private static void boundNotPassed() {
        Checks.due("reached", oneOfEach(6, 0, 6).bound(), oneOfEach(6, 0, 6).match(20000));
        CrossDock x = oneOfEach(6, 6, 6);
        Checks.due("what is promised is not asked", x.bound(), 2 * 6 + 3 + 1);
        x = busy();
        Checks.due("busy", x.bound(), 2 * 3 + 3 + 2 * 4 + 3 + 2);
        x = crowded();
        Checks.due("crowded", x.bound(), 24 * 2 + 8 * 3 + 8);
    }

    private static void pairsOfMoreThanNothing() {
        CrossDock x = arrivalsOf(1, 1);
        x.order(0, 1, 1, 0);
        x.match(20000);
        duePairs("a pair of 0 pallets is none, exact", x, 0, 0, 1);
        x.match(0);
        duePairs("a pair of 0 pallets is none, by rule", x, 0, 0, 1);
        Checks.noSuch("the pair of 0 pallets", pairOf(x, 1));
    }

    private static Checks.Call pairOf(CrossDock x, int i) {
        return () -> x.pair(i, 0);
    }

    // ---- Terms: refusals, the first that holds ----

    private static void refusalsNumberBeforeRoom() {
        illegal(CROWDED, "no room and a wrong good", x -> x.arrive(8, 0, 0, 1));
        illegal(CROWDED, "no room and a wrong lot", x -> x.arrive(0, 10, 0, 1));
        illegal(CROWDED, "no room and a wrong time", x -> x.arrive(0, 0, 1001, 1));
        illegal(CROWDED, "no room and wrong pallets", x -> x.arrive(0, 0, 0, 7));
        illegal(CROWDED, "no room and an order's wrong good", x -> x.order(8, 1, 1, 0));
        illegal(CROWDED, "no room and an order's wrong pallets", x -> x.order(0, 7, 1, 0));
        illegal(CROWDED, "no room and a wrong rank", x -> x.order(0, 1, 10, 0));
        illegal(CROWDED, "no room and a wrong lane", x -> x.order(0, 1, 1, 4));
        illegal(CROWDED_UNDONE, "no room and a wrong split", x -> x.split(0, 6));
    }

    private static void refusalsNoneThereBeforeNumber() {
        noSuch(BUSY, "no order and a wrong due", x -> x.wants(3, 1001, 0));
        noSuch(BUSY, "no order and wrong lots", x -> x.wants(3, 0, 1024));
        noSuch(BUSY, "no arrival and wrong promised", x -> x.promised(3, 7));
        noSuch(BUSY, "no pair and a wrong side", x -> x.pair(2, 3));
        noSuch(BUSY, "no arrival and a wrong split", x -> x.split(3, 0));
        noSuch(BUSY, "no arrival and a wrong time", x -> x.late(3, 1001));
        noSuch(BUSY, "no arrival and a wrong what", x -> x.arrival(3, 4));
        noSuch(BUSY, "no order and a wrong what", x -> x.wanted(3, 4));
        noSuch(CROWDED, "no arrival and no room", x -> x.split(8, 1));
    }

    private static void refusalsNumberBeforeState() {
        illegal(BUSY, "more than it has, and held", x -> x.promised(0, 7));
        illegal(BUSY, "all of it, and in a pair", x -> x.split(0, 6));
        illegal(BUSY, "none of it, and in a pair", x -> x.split(0, 0));
    }

    private static void refusalsStateBeforeRoom() {
        notNow(CROWDED, "in a pair, and no room", x -> x.split(0, 1));
        noRoom(CROWDED_UNDONE, "in no pair, and no room", x -> x.split(0, 1));
    }

    // ---- Promises 1 to 3: a new object, arrive, order ----

    private static void newObject() {
        CrossDock x = new CrossDock();
        for (int what = 0; what < 5; what++) {
            Checks.due("new, count " + what, x.count(what), 0);
        }
        Checks.due("new, exact", x.exact(), false);
        Checks.due("new, steps", x.steps(), 0);
        Checks.due("new, bound", x.bound(), 0);
        Checks.due("new, saved", x.saved(), 0);
        noSuch(NEW, "new, wants", y -> y.wants(0, 0, 0));
        noSuch(NEW, "new, promised", y -> y.promised(0, 0));
        noSuch(NEW, "new, rule", y -> y.rule(0, 0, true));
        noSuch(NEW, "new, pair", y -> y.pair(0, 0));
        noSuch(NEW, "new, undo", y -> y.undo(0));
        noSuch(NEW, "new, split", y -> y.split(0, 1));
        noSuch(NEW, "new, late", y -> y.late(0, 0));
        noSuch(NEW, "new, arrival", y -> y.arrival(0, 0));
        noSuch(NEW, "new, wanted", y -> y.wanted(0, 0));
        for (int lane = 0; lane < 4; lane++) {
            Checks.due("new, no order goes to lane " + lane, x.full(lane, false), 0);
        }
    }

    private static void objectsApart() {
        CrossDock x = new CrossDock();
        CrossDock y = crowded();
        y.full(0, true);
        Checks.due("another object's doings", Probe.of(x), Probe.of(new CrossDock()));
    }

    private static void refusedOnesTakeNoNumber() {
        CrossDock x = new CrossDock();
        Checks.illegal("arrive, wrong", () -> x.arrive(0, 0, 0, 0));
        Checks.due("arrive after a refusal", x.arrive(0, 0, 0, 1), 0);
        Checks.illegal("order, wrong", () -> x.order(0, 0, 1, 0));
        Checks.due("order after a refusal", x.order(0, 1, 1, 0), 0);
        Checks.illegal("arrive, wrong again", () -> x.arrive(0, 0, 0, 7));
        Checks.due("arrive after another refusal", x.arrive(0, 0, 0, 1), 1);
    }

    // ---- Promise 4: wants ----

    private static void wantsOfOrdersThere() {
        for (int n : Checks.outside(0, 2)) {
            noSuch(BUSY, "wants, order " + n, x -> x.wants(n, 0, 0));
        }
        CrossDock x = busy();
        x.wants(0, 7, 0);
        x.wants(2, 8, 0);
        Checks.due("wants, the first order", x.wanted(0, 1), 7);
        Checks.due("wants, the last order", x.wanted(2, 1), 8);
        Checks.due("wants, the one between", x.wanted(1, 1), 1000);
    }

    private static void wantsLots() {
        for (int n : Checks.outside(0, 1023)) {
            illegal(BUSY, "wants, lots " + n, x -> x.wants(0, 0, n));
        }
        illegal(BUSY, "wants, a lot beyond the last", x -> x.wants(0, 0, 1 << 10));
        illegal(BUSY, "wants, lot 30", x -> x.wants(0, 0, 1 << 30));
        CrossDock x = new CrossDock();
        x.order(0, 1, 1, 0);
        for (int lot = 0; lot < 8; lot++) {
            x.arrive(0, lot + lot / 7 * 2, 0, 1);
        }
        x.wants(0, 1000, 0);
        Checks.due("wants, no lot", x.wanted(0, 2), 0);
        x.wants(0, 1000, 1);
        Checks.due("wants, lot 0 alone", x.wanted(0, 2), 1);
        x.wants(0, 1000, 512);
        Checks.due("wants, lot 9 alone", x.wanted(0, 2), 1);
        x.wants(0, 1000, 1023);
        Checks.due("wants, all lots", x.wanted(0, 2), 8);
    }

    private static void wantsReplacesAndUndoesNothing() {
        CrossDock x = busy();
        x.wants(1, 0, 0);
        Checks.due("wants, none may serve it", x.wanted(1, 2), 0);
        duePairs("wants, pairs stand", x, 1, 1, 4, 0, 0, 3);
        x.wants(1, 1000, 1023);
        Checks.due("wants, told anew", x.wanted(1, 2), 1);
    }

    // ---- Promise 5: promised ----

    private static void promisedOfArrivalsThere() {
        for (int n : Checks.outside(0, 2)) {
            noSuch(BUSY, "promised, arrival " + n, x -> x.promised(n, 0));
        }
    }

    private static void promisedBelowNoneOrMoreThanAll() {
        for (int n : Checks.outside(0, 2)) {
            illegal(BUSY, "promised of two, " + n, x -> x.promised(2, n));
        }
        CrossDock x = busy();
        x.promised(2, 2);
        Checks.due("promised, all of it", x.arrival(2, 0), 0);
        x.promised(2, 0);
        Checks.due("promised, none of it", x.arrival(2, 0), 2);
        x.split(2, 1);
        Checks.illegal("promised, what it had before split", () -> x.promised(2, 2));
        x.promised(2, 1);
        Checks.due("promised, what it has since split", x.arrival(2, 0), 0);
    }

    private static void promisedAgainstMatches() {
        notNow(BUSY, "promised, one that is held", x -> x.promised(0, 4));
        notNow(BUSY, "promised, all though some are held", x -> x.promised(0, 6));
        notNow(BUSY, "promised, one though all are held", x -> x.promised(1, 1));
        CrossDock x = busy();
        x.promised(0, 3);
        Checks.due("promised, all that are not held", x.arrival(0, 0), 0);
        x.promised(1, 0);
        Checks.due("promised, none though all are held", x.arrival(1, 0), 0);
        x.undo(0);
        x.promised(1, 4);
        Checks.due("promised, all since undo", x.arrival(1, 0), 0);
        CrossDock two = arrivalsOf(6);
        two.order(0, 2, 1, 0);
        two.order(0, 2, 1, 0);
        two.match(20000);
        Checks.notNow("promised, held by two matches", () -> two.promised(0, 3));
        two.promised(0, 2);
        Checks.due("promised, what two matches leave", two.arrival(0, 0), 0);
    }

    // ---- Promise 6: rule ----

    private static void ruleOfThoseThere() {
        for (int n : Checks.outside(0, 2)) {
            noSuch(BUSY, "rule, arrival " + n, x -> x.rule(n, 0, true));
            noSuch(BUSY, "rule, order " + n, x -> x.rule(0, n, true));
            noSuch(BUSY, "unbarred, arrival " + n, x -> x.rule(n, 1, false));
            noSuch(BUSY, "unbarred, order " + n, x -> x.rule(0, n, false));
        }
        Scene ordersOnly = () -> {
            CrossDock x = new CrossDock();
            x.order(0, 1, 1, 0);
            return x;
        };
        noSuch(ordersOnly, "rule, an order but no arrival", x -> x.rule(0, 0, true));
        noSuch(() -> arrivalsOf(1), "rule, an arrival but no order", x -> x.rule(0, 0, true));
    }

    private static void ruleTellsWhetherItMay() {
        CrossDock x = oneOfEach(1, 1, 1);
        Checks.due("not barred, nothing to give", x.rule(0, 0, false), true);
        Checks.due("barred", x.rule(0, 0, true), false);
        Checks.due("not barred any more", x.rule(0, 0, false), true);
        x.full(0, true);
        Checks.due("not barred, lane full", x.rule(0, 0, false), false);
        x.full(0, false);
        x.wants(0, 1000, 1022);
        Checks.due("not barred, lot not taken", x.rule(0, 0, false), false);
        x.wants(0, 1000, 1023);
        x.order(1, 1, 1, 0);
        Checks.due("not barred, another good", x.rule(0, 1, false), false);
    }

    private static void ruleTwice() {
        CrossDock x = oneOfEach(1, 0, 1);
        x.rule(0, 0, true);
        Checks.due("barred twice", x.rule(0, 0, true), false);
        Checks.due("barred twice, unbarred once", x.rule(0, 0, false), true);
        Checks.due("unbarred twice", x.rule(0, 0, false), true);
        Checks.due("it may serve", x.arrival(0, 3), 1);
    }

    private static void ruleUndoesNothing() {
        CrossDock x = busy();
        Checks.due("rule on a pair", x.rule(0, 0, true), false);
        duePairs("rule, pairs stand", x, 1, 1, 4, 0, 0, 3);
        Checks.due("rule, and save", x.saved(), 21);
    }

    // ---- Promise 7: full ----

    private static void fullTellsOrders() {
        CrossDock x = new CrossDock();
        Checks.due("full, no order at all", x.full(0, true), 0);
        for (int i = 0; i < 8; i++) {
            x.order(i, 1, 1, i < 7 ? 3 : 0);
        }
        Checks.due("full, seven go to lane 3", x.full(3, true), 7);
        Checks.due("full off, seven go to lane 3", x.full(3, false), 7);
        Checks.due("full, one goes to lane 0", x.full(0, true), 1);
        Checks.due("full, none goes to lane 1", x.full(1, true), 0);
    }

    private static void fullTwice() {
        CrossDock x = new CrossDock();
        x.full(2, true);
        x.full(2, true);
        Checks.due("full twice, one lane", x.count(4), 1);
        x.full(2, false);
        Checks.due("full twice, off once", x.count(4), 0);
        x.full(2, false);
        Checks.due("off twice", x.count(4), 0);
    }

    private static void fullUndoesNothing() {
        CrossDock x = busy();
        x.full(1, true);
        x.full(2, true);
        duePairs("full, pairs stand", x, 1, 1, 4, 0, 0, 3);
        Checks.due("full, and save", x.saved(), 21);
    }

    // ---- Promises 8 to 11: match, exact, bound, steps ----

    private static void matchSteps() {
        for (int n : Checks.outside(0, 20000)) {
            illegal(BUSY, "match, steps " + n, x -> x.match(n));
            illegal(NEW, "match on a new object, steps " + n, x -> x.match(n));
        }
        CrossDock x = busy();
        Checks.due("match, no step", x.match(0), 21);
        Checks.due("match, one step", x.match(1), 21);
        Checks.due("match, the most steps", x.match(20000), 21);
    }

    private static void matchAllAnew() {
        CrossDock x = busy();
        x.undo(0);
        x.undo(0);
        Checks.due("undone ones are matched again", x.match(20000), 21);
        duePairs("undone ones are matched again", x, 1, 1, 4, 0, 0, 3);
        Checks.due("what is matched is matched again", x.match(20000), 21);
        duePairs("what is matched is matched again", x, 1, 1, 4, 0, 0, 3);
        x.full(1, true);
        x.full(2, true);
        Checks.due("nothing may be", x.match(20000), 0);
        duePairs("nothing may be", x);
        Checks.due("all is free again", x.arrival(1, 0), 4);
    }

    private static void exactOfTheLatest() {
        CrossDock x = busy();
        Checks.due("exact", x.exact(), true);
        x.match(1);
        Checks.due("the latest was not", x.exact(), false);
        x.match(65);
        Checks.due("the latest was", x.exact(), true);
        x.undo(0);
        x.late(0, 1000);
        x.arrive(2, 0, 0, 6);
        x.order(2, 6, 1, 1);
        Checks.illegal("a match that is refused", () -> x.match(20001));
        Checks.due("still the latest", x.exact(), true);
        Checks.due("and its steps", x.steps(), 65);
    }

    private static void boundForNow() {
        CrossDock x = oneOfEach(2, 0, 2);
        Checks.due("bound, one pair", x.bound(), 8);
        x.match(20000);
        Checks.due("bound, once it is matched", x.bound(), 8);
        x.full(0, true);
        Checks.due("bound, lane full", x.bound(), 0);
        x.full(0, false);
        x.rule(0, 0, true);
        Checks.due("bound, barred", x.bound(), 0);
        x.rule(0, 0, false);
        x.wants(0, 0, 1023);
        Checks.due("bound, in time", x.bound(), 8);
        x.late(0, 1);
        Checks.due("bound, too late", x.bound(), 0);
        x.late(0, 0);
        x.wants(0, 1000, 0);
        Checks.due("bound, no lot", x.bound(), 0);
        x.wants(0, 1000, 1);
        x.split(0, 1);
        Checks.due("bound, an arrival more by split", x.bound(), 9);
    }

    private static void stepsNoMoreThanTold() {
        CrossDock x = busy();
        for (int told = 0; told <= 70; told++) {
            Checks.due("steps of " + told, stepsOf(x, told), Math.min(told, 65));
            Checks.due("exact with " + told, x.exact(), told >= 65);
        }
    }

    // ---- Promises 12 and 13: pair, undo ----

    private static void pairThere() {
        for (int n : Checks.outside(0, 1)) {
            noSuch(BUSY, "pair " + n, x -> x.pair(n, 0));
        }
        duePairs("the last of eight", crowded(), 0, 0, 1, 1, 1, 2, 2, 2, 3, 3, 3, 4, 4, 4, 5, 5, 5, 5,
            6, 6, 1, 7, 7, 2);
    }

    private static void pairSides() {
        for (int n : Checks.outside(0, 2)) {
            illegal(BUSY, "pair, side " + n, x -> x.pair(1, n));
        }
        CrossDock x = busy();
        Checks.due("pair, side 0", x.pair(0, 0), 1);
        Checks.due("pair, side 1", x.pair(1, 1), 0);
        Checks.due("pair, side 2", x.pair(1, 2), 3);
    }

    private static void undoThere() {
        for (int n : Checks.outside(0, 1)) {
            noSuch(BUSY, "undo " + n, x -> x.undo(n));
        }
        CrossDock x = busy();
        Checks.due("undo, the last", x.undo(1), 3);
        Checks.noSuch("undo, the last again", () -> x.undo(1));
        Checks.due("undo, the only one", x.undo(0), 4);
        Checks.noSuch("undo, none left", () -> x.undo(0));
        Checks.due("undo, nothing saved", x.saved(), 0);
    }

    private static void undoMovesUp() {
        CrossDock x = crowded();
        Checks.due("undo, the first", x.undo(0), 1);
        duePairs("behind the first", x, 1, 1, 2, 2, 2, 3, 3, 3, 4, 4, 4, 5, 5, 5, 5, 6, 6, 1, 7, 7, 2);
        Checks.due("undo, the last", x.undo(6), 2);
        duePairs("before the last", x, 1, 1, 2, 2, 2, 3, 3, 3, 4, 4, 4, 5, 5, 5, 5, 6, 6, 1);
        Checks.due("undo, one between", x.undo(3), 5);
        duePairs("round the one between", x, 1, 1, 2, 2, 2, 3, 3, 3, 4, 5, 5, 5, 6, 6, 1);
    }

    // ---- Promise 14: split ----

    private static void splitOfArrivalsThere() {
        for (int n : Checks.outside(0, 2)) {
            noSuch(BUSY, "split, arrival " + n, x -> x.split(n, 1));
        }
    }

    private static void splitOneAndUp() {
        for (int n : Checks.outside(1, 5)) {
            illegal(() -> arrivalsOf(6, 2, 1), "split of six, " + n, x -> x.split(0, n));
        }
        for (int n : Checks.outside(1, 1)) {
            illegal(() -> arrivalsOf(6, 2, 1), "split of two, " + n, x -> x.split(1, n));
        }
        for (int n = -1; n < 3; n++) {
            int pallets = n;
            illegal(() -> arrivalsOf(6, 2, 1), "split of one, " + n, x -> x.split(2, pallets));
        }
        CrossDock x = arrivalsOf(6, 2, 1);
        Checks.due("split, five of six", x.split(0, 5), 3);
        Checks.due("split, one is left", x.arrival(0, 2), 1);
        Checks.due("split, five are new", x.arrival(3, 2), 5);
        Checks.illegal("split, one can't be split again", () -> x.split(0, 1));
        Checks.due("split, one of five", x.split(3, 1), 4);
        Checks.due("split, four are left", x.arrival(3, 2), 4);
        Checks.due("split, one of two", x.split(1, 1), 5);
    }

    private static void splitAlike() {
        CrossDock x = new CrossDock();
        x.arrive(7, 9, 1000, 6);
        x.order(7, 6, 1, 0);
        x.split(0, 2);
        x.wants(0, 1000, 512);
        Checks.due("alike in good, time and lot", x.rule(1, 0, false), true);
        Checks.due("alike in time", x.arrival(1, 1), 1000);
        x.wants(0, 1000, 511);
        Checks.due("alike in lot", x.rule(1, 0, false), false);
        x.late(1, 0);
        Checks.due("the old one's time is its own", x.arrival(0, 1), 1000);
    }

    private static void splitPromisedStay() {
        for (int promised = 0; promised <= 6; promised++) {
            CrossDock x = arrivalsOf(6);
            x.promised(0, promised);
            x.split(0, 2);
            Checks.due("four stay, promised " + promised, x.arrival(0, 0), Math.max(0, 4 - promised));
            Checks.due("two are new, promised " + promised, x.arrival(1, 0), Math.min(2, 6 - promised));
        }
    }

    private static void splitBarredForTheSame() {
        CrossDock x = arrivalsOf(6);
        for (int i = 0; i < 8; i++) {
            x.order(0, 1, 1, 0);
        }
        x.rule(0, 0, true);
        x.rule(0, 7, true);
        x.split(0, 3);
        Checks.due("barred for as many", x.arrival(1, 3), 6);
        Checks.due("barred for the first", x.wanted(0, 2), 0);
        Checks.due("barred for the last", x.wanted(7, 2), 0);
        Checks.due("not for another", x.wanted(3, 2), 2);
        x.rule(1, 0, false);
        Checks.due("the old one's bars are its own", x.wanted(0, 2), 1);
        x.rule(0, 3, true);
        Checks.due("the new one's bars are its own", x.wanted(3, 2), 1);
    }

    private static void splitNotInAPair() {
        notNow(BUSY, "split, in a pair", x -> x.split(0, 1));
        notNow(BUSY, "split, only what is free of it", x -> x.split(0, 2));
        CrossDock x = busy();
        Checks.due("split, in no pair", x.split(2, 1), 3);
        x.undo(0);
        Checks.due("split, its only pair undone", x.split(1, 1), 4);
        CrossDock two = arrivalsOf(6);
        two.order(0, 1, 1, 0);
        two.order(0, 1, 1, 0);
        two.match(20000);
        two.undo(0);
        Checks.notNow("split, one of two pairs undone", () -> two.split(0, 1));
        two.undo(0);
        Checks.due("split, both undone", two.split(0, 1), 1);
    }

    private static void splitNoRoom() {
        CrossDock x = arrivalsOf(6, 1, 1, 1, 1, 1, 1);
        Checks.due("split, the eighth", x.split(0, 1), 7);
        noRoom(() -> arrivalsOf(6, 1, 1, 1, 1, 1, 1, 1), "split, a ninth", y -> y.split(0, 1));
        noRoom(CROWDED_UNDONE, "split, a ninth beside pairs", y -> y.split(0, 1));
    }

    // ---- Promise 15: late ----

    private static void lateOfArrivalsThere() {
        for (int n : Checks.outside(0, 2)) {
            noSuch(BUSY, "late, arrival " + n, x -> x.late(n, 0));
        }
    }

    private static void lateUpToTheDue() {
        CrossDock x = busy();
        Checks.due("late, at the due", x.late(0, 500), 0);
        duePairs("late, at the due", x, 1, 1, 4, 0, 0, 3);
        Checks.due("late, one later", x.late(0, 501), 1);
        duePairs("late, one later", x, 1, 1, 4);
        Checks.due("late, its pallets are free", x.arrival(0, 0), 5);
        Checks.due("late, its order wants again", x.wanted(0, 0), 3);
        Checks.due("late, undone once", x.late(0, 502), 0);
        Checks.due("late, and not made again", x.late(0, 10), 0);
        duePairs("late, and not made again", x, 1, 1, 4);
    }

    private static CrossDock oneForFour() {
        CrossDock x = arrivalsOf(6, 6);
        for (int i = 0; i < 4; i++) {
            x.order(0, 1, i + 1, i);
            x.wants(i, 100 * (i + 1), 1023);
        }
        x.match(0);
        return x;
    }

    private static void lateUndoesSeveral() {
        Checks.due("late, none of four", oneForFour().late(0, 100), 0);
        CrossDock x = oneForFour();
        Checks.due("late, two of four", x.late(0, 201), 2);
        duePairs("late, those behind move up", x, 0, 2, 1, 0, 3, 1);
        x = oneForFour();
        Checks.due("late, all four", x.late(0, 401), 4);
        duePairs("late, all four", x);
    }

    private static void lateAsksAllButLanes() {
        CrossDock x = oneForFour();
        for (int lane = 0; lane < 4; lane++) {
            x.full(lane, true);
        }
        Checks.due("late, lanes are not asked", x.late(0, 100), 0);
        x.rule(0, 1, true);
        x.wants(2, 300, 1022);
        Checks.due("late, barred and lot not taken", x.late(0, 11), 2);
        duePairs("late, barred and lot not taken", x, 0, 0, 1, 0, 3, 1);
        Checks.due("late, too late for a full lane", x.late(0, 101), 1);
        duePairs("late, too late for a full lane", x, 0, 3, 1);
    }

    private static void lateLetsOthersStand() {
        CrossDock x = busy();
        Checks.due("late, in no pair", x.late(2, 0), 0);
        x.wants(1, 0, 0);
        Checks.due("late, another's pair is not asked", x.late(0, 20), 0);
        duePairs("late, another's pair is not asked", x, 1, 1, 4, 0, 0, 3);
    }

    private static void lateToTheSameTimeOrEarlier() {
        CrossDock x = busy();
        Checks.due("late, the same time", x.late(0, 10), 0);
        Checks.due("late, still that time", x.arrival(0, 1), 10);
        Checks.due("late, earlier", x.late(0, 0), 0);
        Checks.due("late, at the first time", x.arrival(0, 1), 0);
        Checks.due("late, the last time", x.late(1, 1000), 0);
        duePairs("late, the plan's order stays", x, 1, 1, 4, 0, 0, 3);
    }

    // ---- Promises 16 and 17: arrival, wanted ----

    private static void arrivalThere() {
        for (int n : Checks.outside(0, 2)) {
            noSuch(BUSY, "arrival " + n, x -> x.arrival(n, 0));
        }
        for (int n : Checks.outside(0, 3)) {
            illegal(BUSY, "arrival, what " + n, x -> x.arrival(0, n));
        }
        CrossDock x = busy();
        Checks.due("arrival, what 0", x.arrival(0, 0), 2);
        Checks.due("arrival, what 1", x.arrival(0, 1), 10);
        Checks.due("arrival, what 2", x.arrival(0, 2), 6);
        Checks.due("arrival, what 3", x.arrival(0, 3), 1);
    }

    private static void arrivalFree() {
        CrossDock x = busy();
        Checks.due("free, all in a pair", x.arrival(1, 0), 0);
        Checks.due("free, in no pair", x.arrival(2, 0), 2);
        x.promised(0, 3);
        Checks.due("free, the rest promised", x.arrival(0, 0), 0);
        x.undo(1);
        Checks.due("free, without the promised ones", x.arrival(0, 0), 3);
        Checks.due("pallets, promised or not", x.arrival(0, 2), 6);
    }

    private static void arrivalServes() {
        CrossDock x = arrivalsOf(1);
        Checks.due("serves, no order there", x.arrival(0, 3), 0);
        for (int i = 0; i < 8; i++) {
            x.order(0, 6, 1, i % 4);
        }
        Checks.due("serves, all eight", x.arrival(0, 3), 8);
        x.promised(0, 1);
        Checks.due("serves, though nothing is free", x.arrival(0, 3), 8);
        x.full(0, true);
        Checks.due("serves, but for a full lane", x.arrival(0, 3), 6);
    }

    private static void wantedThere() {
        for (int n : Checks.outside(0, 2)) {
            noSuch(BUSY, "wanted " + n, x -> x.wanted(n, 0));
        }
        for (int n : Checks.outside(0, 3)) {
            illegal(BUSY, "wanted, what " + n, x -> x.wanted(0, n));
        }
        CrossDock x = busy();
        Checks.due("wanted, what 0", x.wanted(0, 0), 0);
        Checks.due("wanted, what 1", x.wanted(0, 1), 500);
        Checks.due("wanted, what 2", x.wanted(0, 2), 2);
        Checks.due("wanted, what 3", x.wanted(0, 3), 0);
    }

    private static void wantedStill() {
        CrossDock x = arrivalsOf(1, 1);
        x.order(0, 6, 1, 0);
        Checks.due("wants still, all", x.wanted(0, 0), 6);
        x.match(20000);
        Checks.due("wants still, but for two pairs", x.wanted(0, 0), 4);
        x.undo(1);
        Checks.due("wants still, one undone", x.wanted(0, 0), 5);
        Checks.due("wants still, filled", busy().wanted(1, 0), 0);
    }

    private static void wantedFirstThingThatBars() {
        CrossDock none = new CrossDock();
        none.order(0, 1, 1, 0);
        Checks.due("no arrival at all, the first good", none.wanted(0, 3), 1);
        CrossDock x = new CrossDock();
        x.order(3, 4, 1, 2);
        Checks.due("no arrival at all", x.wanted(0, 3), 1);
        x.full(2, true);
        x.arrive(2, 0, 0, 1);
        Checks.due("none has its good, and more", x.wanted(0, 3), 1);
        x.arrive(3, 5, 51, 1);
        x.rule(1, 0, true);
        x.wants(0, 50, 0);
        Checks.due("none in time, and more", x.wanted(0, 3), 2);
        x.wants(0, 51, 1023 - (1 << 5));
        Checks.due("none of a lot, and more", x.wanted(0, 3), 3);
        x.wants(0, 51, 1 << 5);
        Checks.due("all barred, and more", x.wanted(0, 3), 4);
        x.rule(1, 0, false);
        Checks.due("only the lane", x.wanted(0, 3), 5);
        x.full(2, false);
        Checks.due("nothing", x.wanted(0, 3), 0);
        x.promised(1, 1);
        Checks.due("nothing, though all is promised", x.wanted(0, 3), 0);
    }

    private static void wantedAskedOfThoseLeft() {
        CrossDock x = new CrossDock();
        x.order(3, 4, 1, 2);
        x.wants(0, 50, 1);
        x.arrive(3, 1, 51, 1);
        x.arrive(2, 0, 50, 1);
        Checks.due("one too late, one of another good", x.wanted(0, 3), 2);
        x.arrive(3, 1, 50, 1);
        Checks.due("one in time, but of another lot", x.wanted(0, 3), 3);
        x.arrive(3, 0, 51, 1);
        Checks.due("one of its lot, but too late", x.wanted(0, 3), 3);
        x.arrive(3, 0, 50, 1);
        x.rule(4, 0, true);
        Checks.due("the one that is left is barred", x.wanted(0, 3), 4);
        x.arrive(3, 0, 0, 1);
        x.full(2, true);
        Checks.due("one is left, but the lane is full", x.wanted(0, 3), 5);
        x.full(2, false);
        Checks.due("one is left", x.wanted(0, 3), 0);
        Checks.due("one may serve it", x.wanted(0, 2), 1);
    }

    // ---- Promises 18 and 19: saved, count ----

    private static void savedAsTheyAreNow() {
        CrossDock x = busy();
        Checks.due("saved, as matched", x.saved(), 4 * 2 + 3 + 1 + 3 * 2 + 3);
        x.promised(0, 3);
        Checks.due("saved, three is all that is to give now", x.saved(), 22);
        x.promised(0, 2);
        Checks.due("saved, one more to give", x.saved(), 21);
        x.order(0, 1, 1, 0);
        x.arrive(0, 0, 0, 1);
        Checks.due("saved, what came since is not matched", x.saved(), 21);
        x.undo(0);
        Checks.due("saved, one undone", x.saved(), 3 * 2 + 3);
        x.late(0, 1000);
        Checks.due("saved, none left", x.saved(), 0);
        CrossDock two = arrivalsOf(1, 1);
        two.order(0, 2, 1, 0);
        two.match(20000);
        two.undo(0);
        Checks.due("saved, an order that is filled no more", two.saved(), 2 + 1);
    }

    private static void countOfAnother() {
        CrossDock x = busy();
        for (int n : Checks.outside(0, 4)) {
            Checks.due("count " + n, x.count(n), -1);
        }
        Checks.due("count 0", x.count(0), 3);
        Checks.due("count 1", x.count(1), 3);
        Checks.due("count 2", x.count(2), 2);
        Checks.due("count 3", x.count(3), 7);
        Checks.due("count 4", x.count(4), 1);
    }

    private static void countFromEmptyToFull() {
        CrossDock x = crowded();
        for (int lane = 0; lane < 4; lane++) {
            x.full(lane, true);
        }
        Checks.due("count, all arrivals", x.count(0), 8);
        Checks.due("count, all orders", x.count(1), 8);
        Checks.due("count, a pair each", x.count(2), 8);
        Checks.due("count, their pallets", x.count(3), 23);
        Checks.due("count, all lanes", x.count(4), 4);
        x.match(0);
        Checks.due("count, no pair", x.count(2), 0);
        Checks.due("count, no pallet", x.count(3), 0);
    }
}
