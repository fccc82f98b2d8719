/** Each promise of the document by hand-made cases: ordinary inputs, edges, wrong inputs. */
public final class CrossDockPromises {
    private static final int[] WILD = {Integer.MIN_VALUE, -1, 8, 100, Integer.MAX_VALUE};

    public static void main(String[] args) {
        newObject();
        arrive();
        order();
        wants();
        promised();
        rule();
        full();
        match();
        exactBoundSteps();
        pair();
        undo();
        split();
        late();
        arrival();
        wanted();
        saved();
        count();
        Checks.end("all promises hold");
    }

    private static void newObject() {
        CrossDock x = new CrossDock();
        for (int what = 0; what < 5; what++) {
            Checks.due("new: count(" + what + ")", x.count(what), 0);
        }
        Checks.due("new: exact", x.exact(), false);
        Checks.due("new: steps", x.steps(), 0);
        Checks.due("new: bound", x.bound(), 0);
        Checks.due("new: saved", x.saved(), 0);
        Checks.noSuch("new: pair", () -> x.pair(0, 0));
        Checks.noSuch("new: undo", () -> x.undo(0));
        Checks.noSuch("new: arrival", () -> x.arrival(0, 0));
        Checks.noSuch("new: wanted", () -> x.wanted(0, 0));
        Checks.due("new: match(0)", x.match(0), 0);
        Checks.due("new: exact after match(0)", x.exact(), true);
        CrossDock y = new CrossDock();
        x.arrive(0, 0, 0, 1);
        x.full(0, true);
        Checks.due("another object has its own arrivals", y.count(0), 0);
        Checks.due("another object has its own lanes", y.count(4), 0);
    }

    private static void arrive() {
        CrossDock x = new CrossDock();
        Checks.illegal("arrive: good -1", () -> x.arrive(-1, 0, 0, 1));
        Checks.illegal("arrive: good 8", () -> x.arrive(8, 0, 0, 1));
        Checks.illegal("arrive: lot -1", () -> x.arrive(0, -1, 0, 1));
        Checks.illegal("arrive: lot 10", () -> x.arrive(0, 10, 0, 1));
        Checks.illegal("arrive: time -1", () -> x.arrive(0, 0, -1, 1));
        Checks.illegal("arrive: time 1001", () -> x.arrive(0, 0, 1001, 1));
        Checks.illegal("arrive: pallets 0", () -> x.arrive(0, 0, 0, 0));
        Checks.illegal("arrive: pallets 7", () -> x.arrive(0, 0, 0, 7));
        for (int wild : WILD) {
            Checks.illegal("arrive: good " + wild, () -> x.arrive(wild, 0, 0, 1));
            Checks.illegal("arrive: pallets " + wild, () -> x.arrive(0, 0, 0, wild));
        }
        Checks.due("arrive: refused ones leave nothing", x.count(0), 0);
        for (int i = 0; i < 8; i++) {
            Checks.due("arrive: number", x.arrive(i, i, 1000 - i, i % 6 + 1), i);
        }
        Checks.due("arrive: time", x.arrival(2, 1), 998);
        Checks.due("arrive: pallets", x.arrival(5, 2), 6);
        Checks.due("arrive: nothing promised at first", x.arrival(5, 0), 6);
        Checks.noRoom("arrive: a ninth", () -> x.arrive(0, 0, 0, 1));
        Checks.illegal("arrive: a ninth that is wrong", () -> x.arrive(0, 0, 0, 7));
        Checks.due("arrive: still eight", x.count(0), 8);
    }

    private static void order() {
        CrossDock x = new CrossDock();
        Checks.illegal("order: good -1", () -> x.order(-1, 1, 1, 0));
        Checks.illegal("order: good 8", () -> x.order(8, 1, 1, 0));
        Checks.illegal("order: n 0", () -> x.order(0, 0, 1, 0));
        Checks.illegal("order: n 7", () -> x.order(0, 7, 1, 0));
        Checks.illegal("order: rank 0", () -> x.order(0, 1, 0, 0));
        Checks.illegal("order: rank 10", () -> x.order(0, 1, 10, 0));
        Checks.illegal("order: lane -1", () -> x.order(0, 1, 1, -1));
        Checks.illegal("order: lane 4", () -> x.order(0, 1, 1, 4));
        Checks.due("order: refused ones leave nothing", x.count(1), 0);
        for (int i = 0; i < 8; i++) {
            Checks.due("order: number", x.order(i, i % 6 + 1, i + 1, i % 4), i);
        }
        Checks.due("order: wants", x.wanted(3, 0), 4);
        Checks.due("order: due at first", x.wanted(3, 1), 1000);
        Checks.noRoom("order: a ninth", () -> x.order(0, 1, 9, 3));
        Checks.illegal("order: a ninth that is wrong", () -> x.order(0, 1, 9, 4));
        x.arrive(3, 9, 1000, 1);
        x.arrive(3, 0, 1000, 1);
        Checks.due("order: all lots at first", x.wanted(3, 2), 2);
    }

    private static void wants() {
        CrossDock x = new CrossDock();
        Checks.noSuch("wants: no order", () -> x.wants(0, 1001, 1024));
        x.order(1, 2, 1, 0);
        x.arrive(1, 0, 50, 1);
        x.arrive(1, 9, 50, 1);
        Checks.noSuch("wants: order -1", () -> x.wants(-1, 0, 0));
        Checks.noSuch("wants: order 1", () -> x.wants(1, 0, 0));
        Checks.illegal("wants: due -1", () -> x.wants(0, -1, 0));
        Checks.illegal("wants: due 1001", () -> x.wants(0, 1001, 0));
        Checks.illegal("wants: lots -1", () -> x.wants(0, 0, -1));
        Checks.illegal("wants: lots 1024", () -> x.wants(0, 0, 1024));
        Checks.due("wants: a refusal changes nothing", x.wanted(0, 1), 1000);
        x.wants(0, 50, 1023);
        Checks.due("wants: in time to the minute", x.wanted(0, 2), 2);
        x.wants(0, 49, 1023);
        Checks.due("wants: too late", x.wanted(0, 2), 0);
        Checks.due("wants: due", x.wanted(0, 1), 49);
        x.wants(0, 1000, 1);
        Checks.due("wants: lot 0", x.rule(0, 0, false), true);
        Checks.due("wants: not lot 9", x.rule(1, 0, false), false);
        x.wants(0, 1000, 512);
        Checks.due("wants: not lot 0", x.rule(0, 0, false), false);
        Checks.due("wants: lot 9", x.rule(1, 0, false), true);
        x.match(100);
        x.wants(0, 0, 0);
        Checks.due("wants: no lot", x.wanted(0, 2), 0);
        Checks.due("wants: pairs stand", x.count(2), 1);
    }

    private static void promised() {
        CrossDock x = new CrossDock();
        Checks.noSuch("promised: none there", () -> x.promised(0, -1));
        x.arrive(0, 0, 0, 5);
        x.order(0, 2, 1, 0);
        Checks.noSuch("promised: arrival 1", () -> x.promised(1, 0));
        Checks.illegal("promised: -1", () -> x.promised(0, -1));
        Checks.illegal("promised: more than it has", () -> x.promised(0, 6));
        x.promised(0, 5);
        Checks.due("promised: all", x.arrival(0, 0), 0);
        Checks.due("promised: nothing to match", x.match(10), 0);
        Checks.due("promised: no pair", x.count(2), 0);
        Checks.due("promised: the pair may be all the same", x.bound(), 2 * 2 + 3 + 1);
        x.promised(0, 1);
        Checks.due("promised: fewer", x.arrival(0, 0), 4);
        Checks.due("promised: two of four", x.match(10), 7);
        Checks.notNow("promised: what matches hold", () -> x.promised(0, 4));
        Checks.illegal("promised: range before state", () -> x.promised(0, 6));
        Checks.due("promised: a refusal changes nothing", x.arrival(0, 0), 2);
        x.promised(0, 3);
        Checks.due("promised: just what is free", x.arrival(0, 0), 0);
        x.undo(0);
        x.promised(0, 4);
        Checks.due("promised: after undo", x.arrival(0, 0), 1);
    }

    private static void rule() {
        CrossDock x = new CrossDock();
        Checks.noSuch("rule: none there", () -> x.rule(0, 0, true));
        x.arrive(4, 0, 0, 1);
        Checks.noSuch("rule: no order", () -> x.rule(0, 0, true));
        x.order(4, 1, 1, 2);
        x.order(5, 1, 1, 2);
        Checks.noSuch("rule: no arrival", () -> x.rule(1, 0, true));
        for (int wild : WILD) {
            Checks.noSuch("rule: arrival " + wild, () -> x.rule(wild, 0, true));
            Checks.noSuch("rule: order " + wild, () -> x.rule(0, wild, true));
        }
        Checks.due("rule: barred", x.rule(0, 0, true), false);
        Checks.due("rule: nothing may be", x.bound(), 0);
        Checks.due("rule: barred twice", x.rule(0, 0, true), false);
        Checks.due("rule: another good", x.rule(0, 1, false), false);
        Checks.due("rule: still barred", x.arrival(0, 3), 0);
        Checks.due("rule: not barred", x.rule(0, 0, false), true);
        x.match(10);
        x.rule(0, 0, true);
        Checks.due("rule: pairs stand", x.count(2), 1);
        x.full(2, true);
        Checks.due("rule: the lane is asked", x.rule(0, 0, false), false);
        x.full(2, false);
        Checks.due("rule: lane free again", x.rule(0, 0, false), true);
    }

    private static void full() {
        CrossDock x = new CrossDock();
        Checks.illegal("full: lane -1", () -> x.full(-1, true));
        Checks.illegal("full: lane 4", () -> x.full(4, true));
        for (int wild : WILD) {
            Checks.illegal("full: lane " + wild, () -> x.full(wild, false));
        }
        x.arrive(0, 0, 0, 3);
        x.order(0, 1, 1, 3);
        x.order(0, 1, 1, 3);
        x.order(0, 1, 1, 0);
        Checks.due("full: orders there", x.full(3, true), 2);
        Checks.due("full: none there", x.full(1, true), 0);
        Checks.due("full: lanes", x.count(4), 2);
        Checks.due("full: again", x.full(3, true), 2);
        Checks.due("full: counted once", x.count(4), 2);
        Checks.due("full: may serve", x.arrival(0, 3), 1);
        Checks.due("full: only lane 0", x.match(100), 5);
        Checks.due("full: off tells orders too", x.full(3, false), 2);
        Checks.due("full: lanes left", x.count(4), 1);
        Checks.due("full: may serve again", x.arrival(0, 3), 3);
        x.match(100);
        x.full(3, true);
        Checks.due("full: pairs stand", x.count(2), 3);
    }

    private static void match() {
        CrossDock x = new CrossDock();
        Checks.illegal("match: -1", () -> x.match(-1));
        Checks.illegal("match: 20001", () -> x.match(20001));
        Checks.illegal("match: least int", () -> x.match(Integer.MIN_VALUE));
        Checks.illegal("match: greatest int", () -> x.match(Integer.MAX_VALUE));
        Checks.due("match: a refused one is none", x.exact(), false);
        // One order of 2, an early arrival of 3 and a later one of 2: only the later one goes whole.
        x.arrive(0, 0, 5, 3);
        x.arrive(0, 0, 9, 2);
        x.order(0, 2, 1, 0);
        Checks.due("match: whole arrival", x.match(20000), 8);
        Checks.duePair("match: whole arrival", x, 0, 1, 0, 2);
        // Pair one 2, 1, 0; behind them 0; 1, 0; 2, 1, 0: nine steps.
        Checks.due("match: steps", x.steps(), 9);
        Checks.due("match: by rule with a step too few", x.match(8), 7);
        Checks.duePair("match: by rule", x, 0, 0, 0, 2);
        Checks.due("match: exact with the steps needed", x.match(9), 8);
        Checks.due("match: by rule with no step", x.match(0), 7);
        Checks.due("match: no step taken", x.steps(), 0);
        matchTies();
        matchOrder();
        matchAnew();
    }

    private static void matchTies() {
        // Equal arrivals: of plans that save the same the greater first number wins.
        CrossDock x = new CrossDock();
        x.arrive(0, 0, 7, 2);
        x.arrive(0, 0, 7, 2);
        x.order(0, 2, 1, 0);
        Checks.due("ties: touches", x.match(1000), 8);
        Checks.duePair("ties: the lower number", x, 0, 0, 0, 2);
        x.late(0, 8);
        x.match(1000);
        Checks.duePair("ties: the earlier time", x, 0, 1, 0, 2);
    }

    private static void matchOrder() {
        CrossDock x = new CrossDock();
        x.arrive(0, 0, 30, 1);
        x.arrive(0, 0, 10, 1);
        x.arrive(0, 0, 10, 1);
        x.order(0, 1, 9, 0);
        x.order(0, 1, 2, 0);
        x.order(0, 1, 2, 0);
        Checks.due("order of pairs: touches", x.match(0), 18);
        Checks.duePair("order of pairs: first", x, 0, 1, 1, 1);
        Checks.duePair("order of pairs: second", x, 1, 2, 2, 1);
        Checks.duePair("order of pairs: third", x, 2, 0, 0, 1);
        Checks.due("order of pairs: exact agrees", x.match(20000), 18);
        Checks.duePair("order of pairs: exact first", x, 0, 1, 1, 1);
    }

    private static void matchAnew() {
        CrossDock x = new CrossDock();
        x.arrive(0, 0, 0, 4);
        x.order(0, 4, 1, 0);
        Checks.due("anew: first", x.match(5), 12);
        x.promised(0, 0);
        x.full(0, true);
        Checks.due("anew: nothing may be", x.match(5), 0);
        Checks.due("anew: old pairs are gone", x.count(2), 0);
        Checks.due("anew: what is free", x.arrival(0, 0), 4);
        x.full(0, false);
        Checks.due("anew: again", x.match(5), 12);
        Checks.illegal("anew: refused", () -> x.match(-5));
        Checks.due("anew: a refusal lets pairs stand", x.count(3), 4);
        Checks.due("anew: a refusal lets steps stand", x.steps(), 5);
        Checks.due("anew: a second time the same", x.match(5), 12);
        manyPairs();
    }

    private static void manyPairs() {
        CrossDock x = new CrossDock();
        for (int i = 0; i < 8; i++) {
            x.arrive(3, i, 100 - i, 6);
            x.order(3, 1, 1, i % 4);
        }
        Checks.due("many: eight orders filled", x.match(20000), 8 * 5);
        Checks.due("many: not exact", x.exact(), false);
        Checks.due("many: all steps", x.steps(), 20000);
        Checks.due("many: all given by the two earliest", x.count(2), 8);
        Checks.duePair("many: first", x, 0, 7, 0, 1);
        Checks.duePair("many: last", x, 7, 6, 7, 1);
        Checks.due("many: bound", x.bound(), 8 * 5 + 8);
    }

    private static void exactBoundSteps() {
        CrossDock x = new CrossDock();
        x.arrive(7, 9, 1000, 6);
        x.order(7, 6, 9, 3);
        Checks.due("bound: one pair", x.bound(), 16);
        x.order(6, 6, 9, 3);
        x.arrive(5, 0, 0, 1);
        Checks.due("bound: those without a pair don't count", x.bound(), 16);
        x.match(6);
        Checks.due("exact: a step too few", x.exact(), false);
        Checks.due("steps: as told", x.steps(), 6);
        x.match(7);
        Checks.due("exact: enough", x.exact(), true);
        Checks.due("steps: enough", x.steps(), 7);
        x.match(20000);
        Checks.due("steps: no more than needed", x.steps(), 7);
        x.undo(0);
        x.full(3, true);
        Checks.due("exact: stays the latest matching's", x.exact(), true);
        Checks.due("steps: stay the latest matching's", x.steps(), 7);
        Checks.due("bound: for what there is now", x.bound(), 0);
        x.promised(0, 6);
        x.full(3, false);
        x.match(0);
        Checks.due("steps: a pair with nothing to give needs a step", x.exact(), false);
        x.match(1);
        Checks.due("steps: and that one is enough", x.exact(), true);
    }

    private static CrossDock threePairs() {
        CrossDock x = new CrossDock();
        for (int i = 0; i < 3; i++) {
            x.arrive(i, 0, 10, i + 1);
            x.order(i, i + 1, 1, i);
        }
        x.match(20000);
        return x;
    }

    private static void pair() {
        CrossDock x = threePairs();
        for (int i = 0; i < 3; i++) {
            Checks.duePair("pair", x, i, i, i, i + 1);
        }
        Checks.noSuch("pair: 3", () -> x.pair(3, 0));
        Checks.noSuch("pair: -1", () -> x.pair(-1, 0));
        Checks.noSuch("pair: none there before a wrong side", () -> x.pair(3, 3));
        Checks.illegal("pair: side -1", () -> x.pair(0, -1));
        Checks.illegal("pair: side 3", () -> x.pair(0, 3));
        for (int wild : WILD) {
            Checks.noSuch("pair: " + wild, () -> x.pair(wild, 0));
            Checks.illegal("pair: side " + wild, () -> x.pair(0, wild));
        }
    }

    private static void undo() {
        CrossDock x = threePairs();
        Checks.noSuch("undo: 3", () -> x.undo(3));
        Checks.noSuch("undo: -1", () -> x.undo(-1));
        Checks.due("undo: pallets", x.undo(1), 2);
        Checks.due("undo: pairs", x.count(2), 2);
        Checks.duePair("undo: before it", x, 0, 0, 0, 1);
        Checks.duePair("undo: behind it", x, 1, 2, 2, 3);
        Checks.noSuch("undo: moved up", () -> x.pair(2, 0));
        Checks.due("undo: free again", x.arrival(1, 0), 2);
        Checks.due("undo: wanted again", x.wanted(1, 0), 2);
        Checks.due("undo: last", x.undo(1), 3);
        Checks.due("undo: first", x.undo(0), 1);
        Checks.noSuch("undo: none left", () -> x.undo(0));
        Checks.due("undo: nothing saved", x.saved(), 0);
    }

    private static void split() {
        CrossDock x = new CrossDock();
        Checks.noSuch("split: none there", () -> x.split(0, 0));
        x.arrive(2, 4, 77, 6);
        x.arrive(2, 4, 77, 1);
        x.order(2, 1, 1, 1);
        x.order(2, 1, 1, 1);
        x.rule(0, 1, true);
        Checks.illegal("split: 0", () -> x.split(0, 0));
        Checks.illegal("split: -1", () -> x.split(0, -1));
        Checks.illegal("split: all", () -> x.split(0, 6));
        Checks.illegal("split: a single pallet", () -> x.split(1, 1));
        Checks.illegal("split: a single pallet into none", () -> x.split(1, 0));
        Checks.noSuch("split: arrival 2", () -> x.split(2, 1));
        x.promised(0, 4);
        Checks.due("split: number", x.split(0, 3), 2);
        Checks.due("split: old pallets", x.arrival(0, 2), 3);
        Checks.due("split: old free", x.arrival(0, 0), 0);
        Checks.due("split: new pallets", x.arrival(2, 2), 3);
        Checks.due("split: new free", x.arrival(2, 0), 2);
        Checks.due("split: time", x.arrival(2, 1), 77);
        Checks.due("split: barred for the same", x.arrival(2, 3), 1);
        Checks.due("split: barred for that very one", x.rule(2, 0, false), true);
        x.rule(2, 1, false);
        Checks.due("split: each has its own bars", x.arrival(0, 3), 1);
        x.wants(0, 1000, 1 << 4);
        Checks.due("split: lot", x.rule(2, 0, false), true);
        x.promised(0, 1);
        Checks.due("split: promised stay as far as they go", x.split(0, 1), 3);
        Checks.due("split: all free in the new one", x.arrival(3, 0), 1);
        Checks.due("split: one free in the old one", x.arrival(0, 0), 1);
        splitRefusals();
    }

    private static void splitRefusals() {
        CrossDock x = new CrossDock();
        x.arrive(0, 0, 0, 6);
        x.arrive(1, 0, 0, 6);
        x.order(0, 1, 1, 0);
        x.match(100);
        Checks.notNow("split: in a pair", () -> x.split(0, 1));
        Checks.illegal("split: range before state", () -> x.split(0, 6));
        for (int i = 2; i < 7; i++) {
            x.arrive(2, 0, 0, 1);
        }
        Checks.due("split: the eighth", x.split(1, 2), 7);
        Checks.noRoom("split: a ninth", () -> x.split(1, 2));
        Checks.notNow("split: state before room", () -> x.split(0, 1));
        Checks.illegal("split: range before room", () -> x.split(1, 4));
        Checks.due("split: refusals change nothing", x.arrival(1, 2), 4);
        x.undo(0);
        Checks.noRoom("split: undone, but no room", () -> x.split(0, 1));
    }

    private static void late() {
        CrossDock x = new CrossDock();
        Checks.noSuch("late: none there", () -> x.late(0, -1));
        x.arrive(0, 3, 10, 6);
        x.arrive(1, 3, 10, 1);
        for (int i = 0; i < 4; i++) {
            x.order(0, 1, i + 1, i);
        }
        x.order(1, 1, 9, 0);
        x.match(20000);
        Checks.due("late: five pairs", x.count(2), 5);
        Checks.illegal("late: -1", () -> x.late(0, -1));
        Checks.illegal("late: 1001", () -> x.late(0, 1001));
        Checks.due("late: a refusal changes nothing", x.arrival(0, 1), 10);
        x.wants(0, 20, 1023);
        x.wants(1, 19, 1023);
        x.full(2, true);
        Checks.due("late: in time, and lanes are not asked", x.late(0, 19), 0);
        Checks.due("late: the time", x.arrival(0, 1), 19);
        Checks.due("late: after the due of one", x.late(0, 20), 1);
        Checks.due("late: its order wants again", x.wanted(1, 0), 1);
        Checks.due("late: others stand", x.count(2), 4);
        Checks.duePair("late: moved up", x, 1, 0, 2, 1);
        x.rule(0, 3, true);
        x.wants(2, 1000, 0);
        x.wants(4, 0, 0);
        Checks.due("late: barred and lot not taken, and too late", x.late(0, 1000), 3);
        Checks.due("late: another arrival's pair stands", x.count(2), 1);
        Checks.duePair("late: another arrival's pair", x, 0, 1, 4, 1);
        Checks.due("late: earlier", x.late(0, 0), 0);
        Checks.due("late: earlier time", x.arrival(0, 1), 0);
        lateKeepsOrder();
    }

    private static void lateKeepsOrder() {
        // The pairs are those of the latest plan, so their order stays that of the plan.
        CrossDock x = new CrossDock();
        x.arrive(0, 0, 1, 1);
        x.arrive(0, 0, 2, 1);
        x.order(0, 2, 1, 0);
        x.match(100);
        Checks.due("late: nothing undone", x.late(0, 3), 0);
        Checks.duePair("late: order of the plan", x, 0, 0, 0, 1);
        x.match(100);
        Checks.duePair("late: order of the new plan", x, 0, 1, 0, 1);
    }

    private static void arrival() {
        CrossDock x = new CrossDock();
        x.arrive(0, 0, 44, 6);
        x.order(0, 2, 1, 0);
        x.order(0, 1, 1, 0);
        x.order(1, 1, 1, 0);
        x.promised(0, 1);
        Checks.due("arrival: free", x.arrival(0, 0), 5);
        x.match(100);
        Checks.due("arrival: free without pairs", x.arrival(0, 0), 2);
        Checks.due("arrival: time", x.arrival(0, 1), 44);
        Checks.due("arrival: pallets", x.arrival(0, 2), 6);
        Checks.due("arrival: may serve", x.arrival(0, 3), 2);
        Checks.illegal("arrival: what -1", () -> x.arrival(0, -1));
        Checks.illegal("arrival: what 4", () -> x.arrival(0, 4));
        Checks.noSuch("arrival: none there before a wrong what", () -> x.arrival(1, 4));
        for (int wild : WILD) {
            Checks.noSuch("arrival: " + wild, () -> x.arrival(wild, 0));
            Checks.illegal("arrival: what " + wild, () -> x.arrival(0, wild));
        }
    }

    private static void wanted() {
        CrossDock x = new CrossDock();
        x.order(3, 4, 1, 2);
        x.full(2, true);
        Checks.due("wanted: none has its good, before the lane", x.wanted(0, 3), 1);
        x.arrive(2, 0, 0, 1);
        Checks.due("wanted: still none", x.wanted(0, 3), 1);
        x.arrive(3, 1, 60, 1);
        x.wants(0, 50, 1);
        Checks.due("wanted: none in time", x.wanted(0, 3), 2);
        x.arrive(3, 2, 50, 1);
        Checks.due("wanted: none of its lots", x.wanted(0, 3), 3);
        x.arrive(3, 0, 10, 1);
        x.rule(3, 0, true);
        Checks.due("wanted: all that are left are barred", x.wanted(0, 3), 4);
        Checks.due("wanted: none may serve", x.wanted(0, 2), 0);
        x.rule(3, 0, false);
        Checks.due("wanted: lane full", x.wanted(0, 3), 5);
        x.full(2, false);
        Checks.due("wanted: some may", x.wanted(0, 3), 0);
        Checks.due("wanted: how many may", x.wanted(0, 2), 1);
        Checks.due("wanted: due", x.wanted(0, 1), 50);
        Checks.due("wanted: all", x.wanted(0, 0), 4);
        x.match(100);
        Checks.due("wanted: still", x.wanted(0, 0), 3);
        Checks.illegal("wanted: what -1", () -> x.wanted(0, -1));
        Checks.illegal("wanted: what 4", () -> x.wanted(0, 4));
        Checks.noSuch("wanted: none there before a wrong what", () -> x.wanted(1, 4));
        Checks.noSuch("wanted: order -1", () -> x.wanted(-1, 0));
    }

    private static void saved() {
        CrossDock x = new CrossDock();
        x.arrive(0, 0, 0, 4);
        x.arrive(0, 0, 1, 1);
        x.order(0, 3, 1, 0);
        x.order(0, 2, 2, 0);
        // By rule 3 and 1 of the first, then 1 of the second, which goes whole.
        Checks.due("saved: match", x.match(0), 5 * 2 + 3 + 3 + 1);
        Checks.due("saved: as matched", x.saved(), 17);
        x.undo(1);
        Checks.due("saved: an order no longer filled", x.saved(), 4 * 2 + 3 + 1);
        x.promised(0, 1);
        Checks.due("saved: three is all that is to give now", x.saved(), 13);
        x.promised(0, 0);
        Checks.due("saved: and now no longer", x.saved(), 12);
        Checks.due("saved: last of the second", x.undo(1), 1);
        Checks.due("saved: one order", x.saved(), 9);
        x.order(1, 1, 1, 0);
        x.arrive(1, 0, 0, 1);
        Checks.due("saved: new ones save nothing", x.saved(), 9);
    }

    private static void count() {
        CrossDock x = threePairs();
        x.arrive(7, 0, 0, 1);
        x.full(0, true);
        x.full(3, true);
        Checks.due("count: arrivals", x.count(0), 4);
        Checks.due("count: orders", x.count(1), 3);
        Checks.due("count: pairs", x.count(2), 3);
        Checks.due("count: pallets", x.count(3), 6);
        Checks.due("count: full lanes", x.count(4), 2);
        x.undo(2);
        Checks.due("count: pairs after undo", x.count(2), 2);
        Checks.due("count: pallets after undo", x.count(3), 3);
        Checks.due("count: 5", x.count(5), -1);
        for (int wild : WILD) {
            Checks.due("count: " + wild, x.count(wild), -1);
        }
    }
}
