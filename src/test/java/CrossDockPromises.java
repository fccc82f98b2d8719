import java.util.NoSuchElementException;

/** Each promise of the document by hand-made cases: ordinary inputs, edges, wrong inputs. */
public final class CrossDockPromises {
    private interface Call {
        void run();
    }

    private static final int[] WILD = {Integer.MIN_VALUE, -1, 8, 100, Integer.MAX_VALUE};
    private static int wrong = 0;

    public static void main(String[] args) {
        newObject();
        arrive();
        order();
        wants();
        promised();
        rule();
        full();
        match();
        exactBoundSteps();
        pair();
        undo();
        split();
        late();
        arrival();
        wanted();
        saved();
        count();
        System.out.println(wrong == 0 ? "all promises hold" : wrong + " answers are wrong");
        if (wrong != 0) {
            System.exit(1);
        }
    }

    private static void due(String what, int got, int want) {
        if (got != want) {
            wrong++;
            System.out.println(what + " answered " + got + ", due is " + want);
        }
    }

    private static void due(String what, boolean got, boolean want) {
        due(what, got ? 1 : 0, want ? 1 : 0);
    }

    private static void refused(String what, Class<? extends RuntimeException> want, Call call) {
        String got = "nothing";
        try {
            call.run();
        } catch (RuntimeException e) {
            got = e.getClass().getName();
        }
        if (!got.equals(want.getName())) {
            wrong++;
            System.out.println(what + " throws " + got + ", due is " + want.getName());
        }
    }

    private static void noSuch(String what, Call call) {
        refused(what, NoSuchElementException.class, call);
    }

    private static void illegal(String what, Call call) {
        refused(what, IllegalArgumentException.class, call);
    }

    private static void notNow(String what, Call call) {
        refused(what, IllegalStateException.class, call);
    }

    private static void noRoom(String what, Call call) {
        refused(what, UnsupportedOperationException.class, call);
    }

    private static void duePair(String what, CrossDock x, int i, int arrive, int order, int pallets) {
        due(what + ": arrival of pair " + i, x.pair(i, 0), arrive);
        due(what + ": order of pair " + i, x.pair(i, 1), order);
        due(what + ": pallets of pair " + i, x.pair(i, 2), pallets);
    }

    private static void newObject() {
        CrossDock x = new CrossDock();
        for (int what = 0; what < 5; what++) {
            due("new: count(" + what + ")", x.count(what), 0);
        }
        due("new: exact", x.exact(), false);
        due("new: steps", x.steps(), 0);
        due("new: bound", x.bound(), 0);
        due("new: saved", x.saved(), 0);
        noSuch("new: pair", () -> x.pair(0, 0));
        noSuch("new: undo", () -> x.undo(0));
        noSuch("new: arrival", () -> x.arrival(0, 0));
        noSuch("new: wanted", () -> x.wanted(0, 0));
        due("new: match(0)", x.match(0), 0);
        due("new: exact after match(0)", x.exact(), true);
        CrossDock y = new CrossDock();
        x.arrive(0, 0, 0, 1);
        x.full(0, true);
        due("another object has its own arrivals", y.count(0), 0);
        due("another object has its own lanes", y.count(4), 0);
    }

    private static void arrive() {
        CrossDock x = new CrossDock();
        illegal("arrive: good -1", () -> x.arrive(-1, 0, 0, 1));
        illegal("arrive: good 8", () -> x.arrive(8, 0, 0, 1));
        illegal("arrive: lot -1", () -> x.arrive(0, -1, 0, 1));
        illegal("arrive: lot 10", () -> x.arrive(0, 10, 0, 1));
        illegal("arrive: time -1", () -> x.arrive(0, 0, -1, 1));
        illegal("arrive: time 1001", () -> x.arrive(0, 0, 1001, 1));
        illegal("arrive: pallets 0", () -> x.arrive(0, 0, 0, 0));
        illegal("arrive: pallets 7", () -> x.arrive(0, 0, 0, 7));
        for (int wild : WILD) {
            illegal("arrive: good " + wild, () -> x.arrive(wild, 0, 0, 1));
            illegal("arrive: pallets " + wild, () -> x.arrive(0, 0, 0, wild));
        }
        due("arrive: refused ones leave nothing", x.count(0), 0);
        for (int i = 0; i < 8; i++) {
            due("arrive: number", x.arrive(i, i, 1000 - i, i % 6 + 1), i);
        }
        due("arrive: time", x.arrival(2, 1), 998);
        due("arrive: pallets", x.arrival(5, 2), 6);
        due("arrive: nothing promised at first", x.arrival(5, 0), 6);
        noRoom("arrive: a ninth", () -> x.arrive(0, 0, 0, 1));
        illegal("arrive: a ninth that is wrong", () -> x.arrive(0, 0, 0, 7));
        due("arrive: still eight", x.count(0), 8);
    }

    private static void order() {
        CrossDock x = new CrossDock();
        illegal("order: good -1", () -> x.order(-1, 1, 1, 0));
        illegal("order: good 8", () -> x.order(8, 1, 1, 0));
        illegal("order: n 0", () -> x.order(0, 0, 1, 0));
        illegal("order: n 7", () -> x.order(0, 7, 1, 0));
        illegal("order: rank 0", () -> x.order(0, 1, 0, 0));
        illegal("order: rank 10", () -> x.order(0, 1, 10, 0));
        illegal("order: lane -1", () -> x.order(0, 1, 1, -1));
        illegal("order: lane 4", () -> x.order(0, 1, 1, 4));
        due("order: refused ones leave nothing", x.count(1), 0);
        for (int i = 0; i < 8; i++) {
            due("order: number", x.order(i, i % 6 + 1, i + 1, i % 4), i);
        }
        due("order: wants", x.wanted(3, 0), 4);
        due("order: due at first", x.wanted(3, 1), 1000);
        noRoom("order: a ninth", () -> x.order(0, 1, 9, 3));
        illegal("order: a ninth that is wrong", () -> x.order(0, 1, 9, 4));
        x.arrive(3, 9, 1000, 1);
        x.arrive(3, 0, 1000, 1);
        due("order: all lots at first", x.wanted(3, 2), 2);
    }

    private static void wants() {
        CrossDock x = new CrossDock();
        noSuch("wants: no order", () -> x.wants(0, 1001, 1024));
        x.order(1, 2, 1, 0);
        x.arrive(1, 0, 50, 1);
        x.arrive(1, 9, 50, 1);
        noSuch("wants: order -1", () -> x.wants(-1, 0, 0));
        noSuch("wants: order 1", () -> x.wants(1, 0, 0));
        illegal("wants: due -1", () -> x.wants(0, -1, 0));
        illegal("wants: due 1001", () -> x.wants(0, 1001, 0));
        illegal("wants: lots -1", () -> x.wants(0, 0, -1));
        illegal("wants: lots 1024", () -> x.wants(0, 0, 1024));
        due("wants: a refusal changes nothing", x.wanted(0, 1), 1000);
        x.wants(0, 50, 1023);
        due("wants: in time to the minute", x.wanted(0, 2), 2);
        x.wants(0, 49, 1023);
        due("wants: too late", x.wanted(0, 2), 0);
        due("wants: due", x.wanted(0, 1), 49);
        x.wants(0, 1000, 1);
        due("wants: lot 0", x.rule(0, 0, false), true);
        due("wants: not lot 9", x.rule(1, 0, false), false);
        x.wants(0, 1000, 512);
        due("wants: not lot 0", x.rule(0, 0, false), false);
        due("wants: lot 9", x.rule(1, 0, false), true);
        x.match(100);
        x.wants(0, 0, 0);
        due("wants: no lot", x.wanted(0, 2), 0);
        due("wants: pairs stand", x.count(2), 1);
    }

    private static void promised() {
        CrossDock x = new CrossDock();
        noSuch("promised: none there", () -> x.promised(0, -1));
        x.arrive(0, 0, 0, 5);
        x.order(0, 2, 1, 0);
        noSuch("promised: arrival 1", () -> x.promised(1, 0));
        illegal("promised: -1", () -> x.promised(0, -1));
        illegal("promised: more than it has", () -> x.promised(0, 6));
        x.promised(0, 5);
        due("promised: all", x.arrival(0, 0), 0);
        due("promised: nothing to match", x.match(10), 0);
        due("promised: no pair", x.count(2), 0);
        due("promised: the pair may be all the same", x.bound(), 2 * 2 + 3 + 1);
        x.promised(0, 1);
        due("promised: fewer", x.arrival(0, 0), 4);
        due("promised: two of four", x.match(10), 7);
        notNow("promised: what matches hold", () -> x.promised(0, 4));
        illegal("promised: range before state", () -> x.promised(0, 6));
        due("promised: a refusal changes nothing", x.arrival(0, 0), 2);
        x.promised(0, 3);
        due("promised: just what is free", x.arrival(0, 0), 0);
        x.undo(0);
        x.promised(0, 4);
        due("promised: after undo", x.arrival(0, 0), 1);
    }

    private static void rule() {
        CrossDock x = new CrossDock();
        noSuch("rule: none there", () -> x.rule(0, 0, true));
        x.arrive(4, 0, 0, 1);
        noSuch("rule: no order", () -> x.rule(0, 0, true));
        x.order(4, 1, 1, 2);
        x.order(5, 1, 1, 2);
        noSuch("rule: no arrival", () -> x.rule(1, 0, true));
        for (int wild : WILD) {
            noSuch("rule: arrival " + wild, () -> x.rule(wild, 0, true));
            noSuch("rule: order " + wild, () -> x.rule(0, wild, true));
        }
        due("rule: barred", x.rule(0, 0, true), false);
        due("rule: nothing may be", x.bound(), 0);
        due("rule: barred twice", x.rule(0, 0, true), false);
        due("rule: another good", x.rule(0, 1, false), false);
        due("rule: still barred", x.arrival(0, 3), 0);
        due("rule: not barred", x.rule(0, 0, false), true);
        x.match(10);
        x.rule(0, 0, true);
        due("rule: pairs stand", x.count(2), 1);
        x.full(2, true);
        due("rule: the lane is asked", x.rule(0, 0, false), false);
        x.full(2, false);
        due("rule: lane free again", x.rule(0, 0, false), true);
    }

    private static void full() {
        CrossDock x = new CrossDock();
        illegal("full: lane -1", () -> x.full(-1, true));
        illegal("full: lane 4", () -> x.full(4, true));
        for (int wild : WILD) {
            illegal("full: lane " + wild, () -> x.full(wild, false));
        }
        x.arrive(0, 0, 0, 3);
        x.order(0, 1, 1, 3);
        x.order(0, 1, 1, 3);
        x.order(0, 1, 1, 0);
        due("full: orders there", x.full(3, true), 2);
        due("full: none there", x.full(1, true), 0);
        due("full: lanes", x.count(4), 2);
        due("full: again", x.full(3, true), 2);
        due("full: counted once", x.count(4), 2);
        due("full: may serve", x.arrival(0, 3), 1);
        due("full: only lane 0", x.match(100), 5);
        due("full: off tells orders too", x.full(3, false), 2);
        due("full: lanes left", x.count(4), 1);
        due("full: may serve again", x.arrival(0, 3), 3);
        x.match(100);
        x.full(3, true);
        due("full: pairs stand", x.count(2), 3);
    }

    private static void match() {
        CrossDock x = new CrossDock();
        illegal("match: -1", () -> x.match(-1));
        illegal("match: 20001", () -> x.match(20001));
        illegal("match: least int", () -> x.match(Integer.MIN_VALUE));
        illegal("match: greatest int", () -> x.match(Integer.MAX_VALUE));
        due("match: a refused one is none", x.exact(), false);
        // One order of 2, an early arrival of 3 and a later one of 2: only the later one goes whole.
        x.arrive(0, 0, 5, 3);
        x.arrive(0, 0, 9, 2);
        x.order(0, 2, 1, 0);
        due("match: whole arrival", x.match(20000), 8);
        duePair("match: whole arrival", x, 0, 1, 0, 2);
        // Pair one 2, 1, 0; behind them 0; 1, 0; 2, 1, 0: nine steps.
        due("match: steps", x.steps(), 9);
        due("match: by rule with a step too few", x.match(8), 7);
        duePair("match: by rule", x, 0, 0, 0, 2);
        due("match: exact with the steps needed", x.match(9), 8);
        due("match: by rule with no step", x.match(0), 7);
        due("match: no step taken", x.steps(), 0);
        matchTies();
        matchOrder();
        matchAnew();
    }

    private static void matchTies() {
        // Equal arrivals: of plans that save the same the greater first number wins.
        CrossDock x = new CrossDock();
        x.arrive(0, 0, 7, 2);
        x.arrive(0, 0, 7, 2);
        x.order(0, 2, 1, 0);
        due("ties: touches", x.match(1000), 8);
        duePair("ties: the lower number", x, 0, 0, 0, 2);
        x.late(0, 8);
        x.match(1000);
        duePair("ties: the earlier time", x, 0, 1, 0, 2);
    }

    private static void matchOrder() {
        CrossDock x = new CrossDock();
        x.arrive(0, 0, 30, 1);
        x.arrive(0, 0, 10, 1);
        x.arrive(0, 0, 10, 1);
        x.order(0, 1, 9, 0);
        x.order(0, 1, 2, 0);
        x.order(0, 1, 2, 0);
        due("order of pairs: touches", x.match(0), 18);
        duePair("order of pairs: first", x, 0, 1, 1, 1);
        duePair("order of pairs: second", x, 1, 2, 2, 1);
        duePair("order of pairs: third", x, 2, 0, 0, 1);
        due("order of pairs: exact agrees", x.match(20000), 18);
        duePair("order of pairs: exact first", x, 0, 1, 1, 1);
    }

    private static void matchAnew() {
        CrossDock x = new CrossDock();
        x.arrive(0, 0, 0, 4);
        x.order(0, 4, 1, 0);
        due("anew: first", x.match(5), 12);
        x.promised(0, 0);
        x.full(0, true);
        due("anew: nothing may be", x.match(5), 0);
        due("anew: old pairs are gone", x.count(2), 0);
        due("anew: what is free", x.arrival(0, 0), 4);
        x.full(0, false);
        due("anew: again", x.match(5), 12);
        illegal("anew: refused", () -> x.match(-5));
        due("anew: a refusal lets pairs stand", x.count(3), 4);
        due("anew: a refusal lets steps stand", x.steps(), 5);
        due("anew: a second time the same", x.match(5), 12);
        manyPairs();
    }

    private static void manyPairs() {
        CrossDock x = new CrossDock();
        for (int i = 0; i < 8; i++) {
            x.arrive(3, i, 100 - i, 6);
            x.order(3, 1, 1, i % 4);
        }
        due("many: eight orders filled", x.match(20000), 8 * 5);
        due("many: not exact", x.exact(), false);
        due("many: all steps", x.steps(), 20000);
        due("many: all given by the two earliest", x.count(2), 8);
        duePair("many: first", x, 0, 7, 0, 1);
        duePair("many: last", x, 7, 6, 7, 1);
        due("many: bound", x.bound(), 8 * 5 + 8);
    }

    private static void exactBoundSteps() {
        CrossDock x = new CrossDock();
        x.arrive(7, 9, 1000, 6);
        x.order(7, 6, 9, 3);
        due("bound: one pair", x.bound(), 16);
        x.order(6, 6, 9, 3);
        x.arrive(5, 0, 0, 1);
        due("bound: those without a pair don't count", x.bound(), 16);
        x.match(6);
        due("exact: a step too few", x.exact(), false);
        due("steps: as told", x.steps(), 6);
        x.match(7);
        due("exact: enough", x.exact(), true);
        due("steps: enough", x.steps(), 7);
        x.match(20000);
        due("steps: no more than needed", x.steps(), 7);
        x.undo(0);
        x.full(3, true);
        due("exact: stays the latest matching's", x.exact(), true);
        due("steps: stay the latest matching's", x.steps(), 7);
        due("bound: for what there is now", x.bound(), 0);
        x.promised(0, 6);
        x.full(3, false);
        x.match(0);
        due("steps: a pair with nothing to give needs a step", x.exact(), false);
        x.match(1);
        due("steps: and that one is enough", x.exact(), true);
    }

    private static CrossDock threePairs() {
        CrossDock x = new CrossDock();
        for (int i = 0; i < 3; i++) {
            x.arrive(i, 0, 10, i + 1);
            x.order(i, i + 1, 1, i);
        }
        x.match(20000);
        return x;
    }

    private static void pair() {
        CrossDock x = threePairs();
        for (int i = 0; i < 3; i++) {
            duePair("pair", x, i, i, i, i + 1);
        }
        noSuch("pair: 3", () -> x.pair(3, 0));
        noSuch("pair: -1", () -> x.pair(-1, 0));
        noSuch("pair: none there before a wrong side", () -> x.pair(3, 3));
        illegal("pair: side -1", () -> x.pair(0, -1));
        illegal("pair: side 3", () -> x.pair(0, 3));
        for (int wild : WILD) {
            noSuch("pair: " + wild, () -> x.pair(wild, 0));
            illegal("pair: side " + wild, () -> x.pair(0, wild));
        }
    }

    private static void undo() {
        CrossDock x = threePairs();
        noSuch("undo: 3", () -> x.undo(3));
        noSuch("undo: -1", () -> x.undo(-1));
        due("undo: pallets", x.undo(1), 2);
        due("undo: pairs", x.count(2), 2);
        duePair("undo: before it", x, 0, 0, 0, 1);
        duePair("undo: behind it", x, 1, 2, 2, 3);
        noSuch("undo: moved up", () -> x.pair(2, 0));
        due("undo: free again", x.arrival(1, 0), 2);
        due("undo: wanted again", x.wanted(1, 0), 2);
        due("undo: last", x.undo(1), 3);
        due("undo: first", x.undo(0), 1);
        noSuch("undo: none left", () -> x.undo(0));
        due("undo: nothing saved", x.saved(), 0);
    }

    private static void split() {
        CrossDock x = new CrossDock();
        noSuch("split: none there", () -> x.split(0, 0));
        x.arrive(2, 4, 77, 6);
        x.arrive(2, 4, 77, 1);
        x.order(2, 1, 1, 1);
        x.order(2, 1, 1, 1);
        x.rule(0, 1, true);
        illegal("split: 0", () -> x.split(0, 0));
        illegal("split: -1", () -> x.split(0, -1));
        illegal("split: all", () -> x.split(0, 6));
        illegal("split: a single pallet", () -> x.split(1, 1));
        illegal("split: a single pallet into none", () -> x.split(1, 0));
        noSuch("split: arrival 2", () -> x.split(2, 1));
        x.promised(0, 4);
        due("split: number", x.split(0, 3), 2);
        due("split: old pallets", x.arrival(0, 2), 3);
        due("split: old free", x.arrival(0, 0), 0);
        due("split: new pallets", x.arrival(2, 2), 3);
        due("split: new free", x.arrival(2, 0), 2);
        due("split: time", x.arrival(2, 1), 77);
        due("split: barred for the same", x.arrival(2, 3), 1);
        due("split: barred for that very one", x.rule(2, 0, false), true);
        x.rule(2, 1, false);
        due("split: each has its own bars", x.arrival(0, 3), 1);
        x.wants(0, 1000, 1 << 4);
        due("split: lot", x.rule(2, 0, false), true);
        x.promised(0, 1);
        due("split: promised stay as far as they go", x.split(0, 1), 3);
        due("split: all free in the new one", x.arrival(3, 0), 1);
        due("split: one free in the old one", x.arrival(0, 0), 1);
        splitRefusals();
    }

    private static void splitRefusals() {
        CrossDock x = new CrossDock();
        x.arrive(0, 0, 0, 6);
        x.arrive(1, 0, 0, 6);
        x.order(0, 1, 1, 0);
        x.match(100);
        notNow("split: in a pair", () -> x.split(0, 1));
        illegal("split: range before state", () -> x.split(0, 6));
        for (int i = 2; i < 7; i++) {
            x.arrive(2, 0, 0, 1);
        }
        due("split: the eighth", x.split(1, 2), 7);
        noRoom("split: a ninth", () -> x.split(1, 2));
        notNow("split: state before room", () -> x.split(0, 1));
        illegal("split: range before room", () -> x.split(1, 4));
        due("split: refusals change nothing", x.arrival(1, 2), 4);
        x.undo(0);
        noRoom("split: undone, but no room", () -> x.split(0, 1));
    }

    private static void late() {
        CrossDock x = new CrossDock();
        noSuch("late: none there", () -> x.late(0, -1));
        x.arrive(0, 3, 10, 6);
        x.arrive(1, 3, 10, 1);
        for (int i = 0; i < 4; i++) {
            x.order(0, 1, i + 1, i);
        }
        x.order(1, 1, 9, 0);
        x.match(20000);
        due("late: five pairs", x.count(2), 5);
        illegal("late: -1", () -> x.late(0, -1));
        illegal("late: 1001", () -> x.late(0, 1001));
        due("late: a refusal changes nothing", x.arrival(0, 1), 10);
        x.wants(0, 20, 1023);
        x.wants(1, 19, 1023);
        x.full(2, true);
        due("late: in time, and lanes are not asked", x.late(0, 19), 0);
        due("late: the time", x.arrival(0, 1), 19);
        due("late: after the due of one", x.late(0, 20), 1);
        due("late: its order wants again", x.wanted(1, 0), 1);
        due("late: others stand", x.count(2), 4);
        duePair("late: moved up", x, 1, 0, 2, 1);
        x.rule(0, 3, true);
        x.wants(2, 1000, 0);
        x.wants(4, 0, 0);
        due("late: barred and lot not taken, and too late", x.late(0, 1000), 3);
        due("late: another arrival's pair stands", x.count(2), 1);
        duePair("late: another arrival's pair", x, 0, 1, 4, 1);
        due("late: earlier", x.late(0, 0), 0);
        due("late: earlier time", x.arrival(0, 1), 0);
        lateKeepsOrder();
    }

    private static void lateKeepsOrder() {
        // The pairs are those of the latest plan, so their order stays that of the plan.
        CrossDock x = new CrossDock();
        x.arrive(0, 0, 1, 1);
        x.arrive(0, 0, 2, 1);
        x.order(0, 2, 1, 0);
        x.match(100);
        due("late: nothing undone", x.late(0, 3), 0);
        duePair("late: order of the plan", x, 0, 0, 0, 1);
        x.match(100);
        duePair("late: order of the new plan", x, 0, 1, 0, 1);
    }

    private static void arrival() {
        CrossDock x = new CrossDock();
        x.arrive(0, 0, 44, 6);
        x.order(0, 2, 1, 0);
        x.order(0, 1, 1, 0);
        x.order(1, 1, 1, 0);
        x.promised(0, 1);
        due("arrival: free", x.arrival(0, 0), 5);
        x.match(100);
        due("arrival: free without pairs", x.arrival(0, 0), 2);
        due("arrival: time", x.arrival(0, 1), 44);
        due("arrival: pallets", x.arrival(0, 2), 6);
        due("arrival: may serve", x.arrival(0, 3), 2);
        illegal("arrival: what -1", () -> x.arrival(0, -1));
        illegal("arrival: what 4", () -> x.arrival(0, 4));
        noSuch("arrival: none there before a wrong what", () -> x.arrival(1, 4));
        for (int wild : WILD) {
            noSuch("arrival: " + wild, () -> x.arrival(wild, 0));
            illegal("arrival: what " + wild, () -> x.arrival(0, wild));
        }
    }

    private static void wanted() {
        CrossDock x = new CrossDock();
        x.order(3, 4, 1, 2);
        x.full(2, true);
        due("wanted: none has its good, before the lane", x.wanted(0, 3), 1);
        x.arrive(2, 0, 0, 1);
        due("wanted: still none", x.wanted(0, 3), 1);
        x.arrive(3, 1, 60, 1);
        x.wants(0, 50, 1);
        due("wanted: none in time", x.wanted(0, 3), 2);
        x.arrive(3, 2, 50, 1);
        due("wanted: none of its lots", x.wanted(0, 3), 3);
        x.arrive(3, 0, 10, 1);
        x.rule(3, 0, true);
        due("wanted: all that are left are barred", x.wanted(0, 3), 4);
        due("wanted: none may serve", x.wanted(0, 2), 0);
        x.rule(3, 0, false);
        due("wanted: lane full", x.wanted(0, 3), 5);
        x.full(2, false);
        due("wanted: some may", x.wanted(0, 3), 0);
        due("wanted: how many may", x.wanted(0, 2), 1);
        due("wanted: due", x.wanted(0, 1), 50);
        due("wanted: all", x.wanted(0, 0), 4);
        x.match(100);
        due("wanted: still", x.wanted(0, 0), 3);
        illegal("wanted: what -1", () -> x.wanted(0, -1));
        illegal("wanted: what 4", () -> x.wanted(0, 4));
        noSuch("wanted: none there before a wrong what", () -> x.wanted(1, 4));
        noSuch("wanted: order -1", () -> x.wanted(-1, 0));
    }

    private static void saved() {
        CrossDock x = new CrossDock();
        x.arrive(0, 0, 0, 4);
        x.arrive(0, 0, 1, 1);
        x.order(0, 3, 1, 0);
        x.order(0, 2, 2, 0);
        // By rule 3 and 1 of the first, then 1 of the second, which goes whole.
        due("saved: match", x.match(0), 5 * 2 + 3 + 3 + 1);
        due("saved: as matched", x.saved(), 17);
        x.undo(1);
        due("saved: an order no longer filled", x.saved(), 4 * 2 + 3 + 1);
        x.promised(0, 1);
        due("saved: three is all that is to give now", x.saved(), 13);
        x.promised(0, 0);
        due("saved: and now no longer", x.saved(), 12);
        due("saved: last of the second", x.undo(1), 1);
        due("saved: one order", x.saved(), 9);
        x.order(1, 1, 1, 0);
        x.arrive(1, 0, 0, 1);
        due("saved: new ones save nothing", x.saved(), 9);
    }

    private static void count() {
        CrossDock x = threePairs();
        x.arrive(7, 0, 0, 1);
        x.full(0, true);
        x.full(3, true);
        due("count: arrivals", x.count(0), 4);
        due("count: orders", x.count(1), 3);
        due("count: pairs", x.count(2), 3);
        due("count: pallets", x.count(3), 6);
        due("count: full lanes", x.count(4), 2);
        x.undo(2);
        due("count: pairs after undo", x.count(2), 2);
        due("count: pallets after undo", x.count(3), 3);
        due("count: 5", x.count(5), -1);
        for (int wild : WILD) {
            due("count: " + wild, x.count(wild), -1);
        }
    }
}
