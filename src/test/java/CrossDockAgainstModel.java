import java.util.ArrayList;
import java.util.Arrays;
import java.util.Comparator;
import java.util.List;
import java.util.NoSuchElementException;
import java.util.Random;

/**
 * Long runs of drawn calls, each answer compared with a slow model that is written from the
 * document anew. The seed of a run is its number, so a fault comes again.
 */
public final class CrossDockAgainstModel {
    private static final int RUNS = 240;
    private static final int CALLS = 512;

    public static void main(String[] args) {
        int wrong = 0;
        for (int run = 0; run < RUNS && wrong < 10; run++) {
            wrong += differences(run);
        }
        System.out.println(wrong == 0 ? "all answers agree with the model" : wrong + " runs differ");
        if (wrong != 0) {
            System.exit(1);
        }
    }

    private static int differences(int run) {
        Random random = new Random(run);
        int goods = 1 + random.nextInt(4);
        CrossDock real = new CrossDock();
        Model model = new Model();
        List<String> told = new ArrayList<>();
        for (int call = 0; call < CALLS; call++) {
            int[] drawn = draw(random, goods, call);
            String got = answer(real, drawn);
            String want = model.answer(drawn);
            told.add(NAMES[drawn[0]] + Arrays.toString(Arrays.copyOfRange(drawn, 1, 5)) + " " + got);
            if (!got.equals(want)) {
                System.out.println("run " + run + ", due is " + want + " at the end of " + told);
                return 1;
            }
        }
        return 0;
    }

    private static final String[] NAMES = {"arrive", "order", "wants", "promised", "rule", "full", "match", "exact",
        "bound", "steps", "pair", "undo", "split", "late", "arrival", "wanted", "saved", "count"};

    private static final int[] LIKELY = {4, 4, 4, 10, 10, 10, 6, 6, 9, 9, 8, 10, 14, 14, 15, 15, 11, 12, 13, 3,
        2, 5, 16, 17, 7, 8};

    private static int[] draw(Random r, int goods, int call) {
        int kind = call < 12 ? r.nextInt(2) : LIKELY[r.nextInt(LIKELY.length)];
        if (r.nextInt(40) == 0) {
            kind = r.nextInt(NAMES.length);
        }
        int[] drawn = {kind, number(r, 8), number(r, 8), 0, 0};
        switch (kind) {
            case 0:
                return new int[] {kind, number(r, goods), number(r, 10), time(r), 1 + number(r, 6)};
            case 1:
                return new int[] {kind, number(r, goods), 1 + number(r, 6), 1 + number(r, 9), number(r, 4)};
            case 2:
                drawn[2] = time(r);
                drawn[3] = r.nextInt(30) == 0 ? r.nextInt(3000) - 900 : 1023 & ~(1 << r.nextInt(12));
                break;
            case 3:
                drawn[2] = number(r, 4);
                break;
            case 4:
                drawn[3] = r.nextInt(2);
                break;
            case 5:
                drawn[1] = number(r, 4);
                drawn[3] = r.nextInt(3) == 0 ? 1 : 0;
                break;
            case 6:
                drawn[1] = steps(r);
                break;
            case 10:
                drawn[2] = number(r, 3);
                break;
            case 13:
                drawn[2] = time(r);
                break;
            case 14:
            case 15:
                drawn[2] = number(r, 4);
                break;
            case 17:
                drawn[1] = number(r, 5);
                break;
            default:
                break;
        }
        return drawn;
    }

    private static int number(Random r, int below) {
        int kind = r.nextInt(60);
        if (kind == 0) {
            return -1 - r.nextInt(2);
        }
        return kind == 1 ? below + r.nextInt(2) : r.nextInt(below);
    }

    private static int time(Random r) {
        int kind = r.nextInt(30);
        if (kind == 0) {
            return 999 + r.nextInt(4);
        }
        return kind == 1 ? -1 : r.nextInt(6);
    }

    private static int steps(Random r) {
        switch (r.nextInt(6)) {
            case 0:
                return number(r, 20);
            case 1:
                return 19999 + r.nextInt(3);
            case 2:
                return r.nextInt(20001);
            default:
                return r.nextInt(1500);
        }
    }

    private static String answer(CrossDock x, int[] c) {
        try {
            switch (c[0]) {
                case 0: return "" + x.arrive(c[1], c[2], c[3], c[4]);
                case 1: return "" + x.order(c[1], c[2], c[3], c[4]);
                case 2: x.wants(c[1], c[2], c[3]); return "done";
                case 3: x.promised(c[1], c[2]); return "done";
                case 4: return "" + x.rule(c[1], c[2], c[3] == 1);
                case 5: return "" + x.full(c[1], c[3] == 1);
                case 6: return "" + x.match(c[1]);
                case 7: return "" + x.exact();
                case 8: return "" + x.bound();
                case 9: return "" + x.steps();
                case 10: return "" + x.pair(c[1], c[2]);
                case 11: return "" + x.undo(c[1]);
                case 12: return "" + x.split(c[1], c[2]);
                case 13: return "" + x.late(c[1], c[2]);
                case 14: return "" + x.arrival(c[1], c[2]);
                case 15: return "" + x.wanted(c[1], c[2]);
                case 16: return "" + x.saved();
                default: return "" + x.count(c[1]);
            }
        } catch (RuntimeException e) {
            return e.getClass().getName();
        }
    }

    private static final String NONE = NoSuchElementException.class.getName();
    private static final String WRONG = IllegalArgumentException.class.getName();
    private static final String STATE = IllegalStateException.class.getName();
    private static final String ROOM = UnsupportedOperationException.class.getName();

    private static final class Came {
        int number, good, lot, time, pallets, promised;
        final List<Ordered> barred = new ArrayList<>();
    }

    private static final class Ordered {
        int number, good, pallets, rank, lane, due = 1000, lots = 1023;
    }

    private record Match(Came came, Ordered ordered, int pallets) { }

    private static final class OutOfSteps extends Exception {
        private static final long serialVersionUID = 1L;
    }

    private static final class Model {
        final List<Came> all = new ArrayList<>();
        final List<Ordered> orders = new ArrayList<>();
        final boolean[] full = new boolean[4];
        List<Match> pairs = new ArrayList<>();
        boolean exact = false;
        int steps = 0;

        String answer(int[] c) {
            switch (c[0]) {
                case 0: return arrive(c);
                case 1: return order(c);
                case 2: return wants(c);
                case 3: return promised(c);
                case 4: return rule(c);
                case 5: return full(c);
                case 6: return out(c[1], 0, 20000) ? WRONG : match(c[1]);
                case 7: return "" + exact;
                case 8: return bound();
                case 9: return "" + steps;
                case 10: return pair(c);
                case 11: return out(c[1], 0, pairs.size() - 1) ? NONE : "" + pairs.remove(c[1]).pallets;
                case 12: return split(c);
                case 13: return late(c);
                case 14: return arrival(c);
                case 15: return wanted(c);
                case 16: return "" + touches(pairs);
                default: return count(c[1]);
            }
        }

        static boolean out(int n, int least, int most) {
            return n < least || n > most;
        }

        boolean fits(Came a, Ordered o) {
            return a.good == o.good && a.time <= o.due && (o.lots >> a.lot) % 2 == 1 && !a.barred.contains(o);
        }

        boolean may(Came a, Ordered o) {
            return fits(a, o) && !full[o.lane];
        }

        int sumOf(List<Match> plan, Came a) {
            return plan.stream().filter(m -> m.came == a).mapToInt(m -> m.pallets).sum();
        }

        int sumFor(List<Match> plan, Ordered o) {
            return plan.stream().filter(m -> m.ordered == o).mapToInt(m -> m.pallets).sum();
        }

        int touches(List<Match> plan) {
            int sum = 0;
            for (Match m : plan) {
                sum += 2 * m.pallets;
                if (m.pallets > 0 && m.pallets == m.came.pallets - m.came.promised) {
                    sum++;
                }
            }
            for (Ordered o : orders) {
                if (sumFor(plan, o) == o.pallets) {
                    sum += 3;
                }
            }
            return sum;
        }

        String arrive(int[] c) {
            if (out(c[1], 0, 7) || out(c[2], 0, 9) || out(c[3], 0, 1000) || out(c[4], 1, 6)) {
                return WRONG;
            }
            if (all.size() == 8) {
                return ROOM;
            }
            Came a = new Came();
            a.number = all.size();
            a.good = c[1];
            a.lot = c[2];
            a.time = c[3];
            a.pallets = c[4];
            all.add(a);
            return "" + a.number;
        }

        String order(int[] c) {
            if (out(c[1], 0, 7) || out(c[2], 1, 6) || out(c[3], 1, 9) || out(c[4], 0, 3)) {
                return WRONG;
            }
            if (orders.size() == 8) {
                return ROOM;
            }
            Ordered o = new Ordered();
            o.number = orders.size();
            o.good = c[1];
            o.pallets = c[2];
            o.rank = c[3];
            o.lane = c[4];
            orders.add(o);
            return "" + o.number;
        }

        String wants(int[] c) {
            if (out(c[1], 0, orders.size() - 1)) {
                return NONE;
            }
            if (out(c[2], 0, 1000) || out(c[3], 0, 1023)) {
                return WRONG;
            }
            orders.get(c[1]).due = c[2];
            orders.get(c[1]).lots = c[3];
            return "done";
        }

        String promised(int[] c) {
            if (out(c[1], 0, all.size() - 1)) {
                return NONE;
            }
            Came a = all.get(c[1]);
            if (out(c[2], 0, a.pallets)) {
                return WRONG;
            }
            if (a.pallets - c[2] < sumOf(pairs, a)) {
                return STATE;
            }
            a.promised = c[2];
            return "done";
        }

        String rule(int[] c) {
            if (out(c[1], 0, all.size() - 1) || out(c[2], 0, orders.size() - 1)) {
                return NONE;
            }
            Came a = all.get(c[1]);
            Ordered o = orders.get(c[2]);
            a.barred.remove(o);
            if (c[3] == 1) {
                a.barred.add(o);
            }
            return "" + may(a, o);
        }

        String full(int[] c) {
            if (out(c[1], 0, 3)) {
                return WRONG;
            }
            full[c[1]] = c[3] == 1;
            return "" + orders.stream().filter(o -> o.lane == c[1]).count();
        }

        String bound() {
            int sum = 0;
            for (Ordered o : orders) {
                sum += all.stream().anyMatch(a -> may(a, o)) ? 2 * o.pallets + 3 : 0;
            }
            for (Came a : all) {
                sum += orders.stream().anyMatch(o -> may(a, o)) ? 1 : 0;
            }
            return "" + sum;
        }

        String match(int limit) {
            List<Match> open = new ArrayList<>();
            List<Ordered> byRank = new ArrayList<>(orders);
            byRank.sort(Comparator.comparingInt((Ordered o) -> o.rank).thenComparingInt(o -> o.number));
            List<Came> byTime = new ArrayList<>(all);
            byTime.sort(Comparator.comparingInt((Came a) -> a.time).thenComparingInt(a -> a.number));
            for (Ordered o : byRank) {
                for (Came a : byTime) {
                    if (may(a, o)) {
                        open.add(new Match(a, o, 0));
                    }
                }
            }
            steps = 0;
            List<Match> best = null;
            try {
                best = best(open, new ArrayList<>(), limit);
                exact = true;
            } catch (OutOfSteps e) {
                exact = false;
                best = new ArrayList<>();
                for (Match m : open) {
                    best.add(new Match(m.came, m.ordered, greatest(best, m)));
                }
            }
            int touches = touches(best);
            pairs = new ArrayList<>(best);
            pairs.removeIf(m -> m.pallets == 0);
            return "" + touches;
        }

        int greatest(List<Match> plan, Match m) {
            int give = m.came.pallets - m.came.promised - sumOf(plan, m.came);
            return Math.min(give, m.ordered.pallets - sumFor(plan, m.ordered));
        }

        List<Match> best(List<Match> open, List<Match> plan, int limit) throws OutOfSteps {
            if (plan.size() == open.size()) {
                return new ArrayList<>(plan);
            }
            Match next = open.get(plan.size());
            List<Match> best = null;
            for (int n = greatest(plan, next); n >= 0; n--) {
                if (steps == limit) {
                    throw new OutOfSteps();
                }
                steps++;
                plan.add(new Match(next.came, next.ordered, n));
                List<Match> found = best(open, plan, limit);
                plan.remove(plan.size() - 1);
                if (best == null || isBetter(found, best)) {
                    best = found;
                }
            }
            return best;
        }

        boolean isBetter(List<Match> one, List<Match> other) {
            int more = touches(one) - touches(other);
            for (int i = 0; more == 0 && i < one.size(); i++) {
                more = one.get(i).pallets - other.get(i).pallets;
            }
            return more > 0;
        }

        String pair(int[] c) {
            if (out(c[1], 0, pairs.size() - 1)) {
                return NONE;
            }
            if (out(c[2], 0, 2)) {
                return WRONG;
            }
            Match m = pairs.get(c[1]);
            return "" + new int[] {m.came.number, m.ordered.number, m.pallets}[c[2]];
        }

        String split(int[] c) {
            if (out(c[1], 0, all.size() - 1)) {
                return NONE;
            }
            Came a = all.get(c[1]);
            if (c[2] < 1 || c[2] >= a.pallets) {
                return WRONG;
            }
            if (pairs.stream().anyMatch(m -> m.came == a)) {
                return STATE;
            }
            if (all.size() == 8) {
                return ROOM;
            }
            Came made = new Came();
            made.number = all.size();
            made.good = a.good;
            made.lot = a.lot;
            made.time = a.time;
            made.pallets = c[2];
            made.barred.addAll(a.barred);
            a.pallets -= c[2];
            while (a.promised > a.pallets) {
                a.promised--;
                made.promised++;
            }
            all.add(made);
            return "" + made.number;
        }

        String late(int[] c) {
            if (out(c[1], 0, all.size() - 1)) {
                return NONE;
            }
            if (out(c[2], 0, 1000)) {
                return WRONG;
            }
            Came a = all.get(c[1]);
            a.time = c[2];
            int before = pairs.size();
            pairs.removeIf(m -> m.came == a && !fits(a, m.ordered));
            return "" + (before - pairs.size());
        }

        String arrival(int[] c) {
            if (out(c[1], 0, all.size() - 1)) {
                return NONE;
            }
            Came a = all.get(c[1]);
            switch (c[2]) {
                case 0: return "" + (a.pallets - a.promised - sumOf(pairs, a));
                case 1: return "" + a.time;
                case 2: return "" + a.pallets;
                case 3: return "" + orders.stream().filter(o -> may(a, o)).count();
                default: return WRONG;
            }
        }

        String wanted(int[] c) {
            if (out(c[1], 0, orders.size() - 1)) {
                return NONE;
            }
            Ordered o = orders.get(c[1]);
            switch (c[2]) {
                case 0: return "" + (o.pallets - sumFor(pairs, o));
                case 1: return "" + o.due;
                case 2: return "" + all.stream().filter(a -> may(a, o)).count();
                case 3: return whatBars(o);
                default: return WRONG;
            }
        }

        String whatBars(Ordered o) {
            List<Came> left = new ArrayList<>(all);
            left.removeIf(a -> a.good != o.good);
            if (left.isEmpty()) {
                return "1";
            }
            left.removeIf(a -> a.time > o.due);
            if (left.isEmpty()) {
                return "2";
            }
            left.removeIf(a -> (o.lots >> a.lot) % 2 == 0);
            if (left.isEmpty()) {
                return "3";
            }
            left.removeIf(a -> a.barred.contains(o));
            if (left.isEmpty()) {
                return "4";
            }
            return full[o.lane] ? "5" : "0";
        }

        String count(int what) {
            switch (what) {
                case 0: return "" + all.size();
                case 1: return "" + orders.size();
                case 2: return "" + pairs.size();
                case 3: return "" + pairs.stream().mapToInt(m -> m.pallets).sum();
                case 4:
                    int lanes = 0;
                    for (boolean f : full) {
                        lanes += f ? 1 : 0;
                    }
                    return "" + lanes;
                default: return "-1";
            }
        }
    }
}
