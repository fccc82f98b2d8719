/**
 * All that can be seen of an object, as a text: two objects with the same text are in the same
 * state as far as any later call could tell. The object is used up by it: some 400 of its calls.
 */
public final class Probe {
    private final CrossDock dock;
    private final StringBuilder text = new StringBuilder();
    private final int arrivals;
    private final int orders;

    private Probe(CrossDock dock) {
        this.dock = dock;
        arrivals = dock.count(0);
        orders = dock.count(1);
    }

    public static String of(CrossDock dock) {
        Probe probe = new Probe(dock);
        probe.lookAtAnswers();
        probe.matchAnew();
        probe.undoAll();
        probe.openLanes();
        probe.findBars();
        probe.findLots();
        return probe.text.toString();
    }

    private void tell(String name, int answer) {
        text.append(name).append('=').append(answer).append(' ');
    }

    private void lookAtAnswers() {
        tell("exact", dock.exact() ? 1 : 0);
        tell("steps", dock.steps());
        tell("bound", dock.bound());
        tell("saved", dock.saved());
        for (int what = 0; what < 5; what++) {
            tell("count", dock.count(what));
        }
        for (int a = 0; a < arrivals; a++) {
            for (int what = 0; what < 4; what++) {
                tell("arrival", dock.arrival(a, what));
            }
        }
        for (int o = 0; o < orders; o++) {
            for (int what = 0; what < 4; what++) {
                tell("wanted", dock.wanted(o, what));
            }
        }
        lookAtPairs();
    }

    private void lookAtPairs() {
        int pairs = dock.count(2);
        for (int i = 0; i < pairs; i++) {
            for (int side = 0; side < 3; side++) {
                tell("pair", dock.pair(i, side));
            }
        }
    }

    private void matchAnew() {
        tell("match", dock.match(300));
        tell("steps", dock.steps());
        lookAtPairs();
    }

    private void undoAll() {
        int pairs = dock.count(2);
        for (int i = 0; i < pairs; i++) {
            dock.undo(0);
        }
        for (int a = 0; a < arrivals; a++) {
            tell("free", dock.arrival(a, 0));
        }
    }

    private void openLanes() {
        for (int lane = 0; lane < 4; lane++) {
            tell("lane", dock.full(lane, false));
        }
    }

    private void findBars() {
        for (int o = 0; o < orders; o++) {
            dock.wants(o, 1000, 1023);
            tell("unbarred", dock.wanted(o, 2));
        }
        for (int a = 0; a < arrivals; a++) {
            tell("unbarred", dock.arrival(a, 3));
            for (int o = 0; o < orders; o++) {
                tell("good", dock.rule(a, o, false) ? 1 : 0);
            }
        }
    }

    private void findLots() {
        for (int lot = 0; lot < 10; lot++) {
            for (int o = 0; o < orders; o++) {
                dock.wants(o, 1000, 1 << lot);
                tell("lot", dock.wanted(o, 2));
            }
        }
    }
}
