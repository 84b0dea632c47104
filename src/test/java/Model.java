import java.util.ArrayDeque;
import java.util.ArrayList;
import java.util.Deque;
import java.util.List;
import java.util.Map;
import java.util.TreeMap;
import java.util.TreeSet;

/** The document's words once more, with queues and sets of the library instead of rows of numbers. */
final class Model {
    private enum State { GOES, WAITS, FINISHED, DEAD, ENDED }

    private static final class Desk {
        final List<TreeSet<Integer>> needs = new ArrayList<>();
        final TreeMap<Integer, Integer> heldSince = new TreeMap<>();
        boolean failsStill;
        int fails;
        int act = 0;
        int done = 0;
        State state = State.GOES;
        Integer waitsFor = null;
    }

    private final List<Desk> desks = new ArrayList<>();
    private final Map<Integer, ArrayDeque<Desk>> queues = new TreeMap<>();
    private final Deque<Desk> schedule = new ArrayDeque<>();
    private final List<Integer> log = new ArrayList<>();
    private int told = 0;
    private int passed = 0;
    private int time = 0;
    private boolean closed = false;

    Model() {
        for (int s = 0; s < 16; s++) {
            queues.put(s, new ArrayDeque<>());
        }
    }

    String answer(String call, int a, int b, int c) {
        return switch (call) {
            case "desk" -> desk(a, b);
            case "needs" -> "" + needs(a, b, c);
            case "turn" -> turn(a);
            case "run" -> closed ? "IllegalStateException" : "" + run();
            case "log" -> "" + (a >= 0 && a < log.size() ? log.get(a) : -1);
            case "holder" -> queues.containsKey(a) ? "" + desks.indexOf(holder(a)) : "IllegalArgumentException";
            case "waits" -> waits(a, b);
            case "interrupt" -> "" + interrupt(find(a));
            case "dead" -> find(a) == null ? "IllegalArgumentException" : "" + die(find(a));
            case "tick" -> tick(a);
            case "close" -> "" + close();
            case "look" -> find(a) == null || b < 0 || b > 4 ? "IndexOutOfBoundsException" : "" + look(find(a), b);
            default -> "" + count(a);
        };
    }

    private Desk find(int desk) {
        return desk >= 0 && desk < desks.size() ? desks.get(desk) : null;
    }

    private Desk holder(int subject) {
        return desks.stream().filter(d -> d.heldSince.containsKey(subject)).findFirst().orElse(null);
    }

    private String desk(int acts, int fails) {
        if (acts < 1 || acts > 12 || fails < -1 || fails >= acts) {
            return "IllegalArgumentException";
        }
        if (desks.size() == 8 || closed) {
            return "IllegalStateException";
        }
        Desk d = new Desk();
        for (int i = 0; i < acts; i++) {
            d.needs.add(new TreeSet<>());
        }
        d.failsStill = fails != -1;
        d.fails = fails;
        desks.add(d);
        return "" + (desks.size() - 1);
    }

    private boolean needs(int desk, int act, int subject) {
        Desk d = find(desk);
        if (closed || d == null || !queues.containsKey(subject) || act < d.act || act >= d.needs.size()) {
            return false;
        }
        boolean begun = act == d.act && (d.state == State.WAITS || !d.heldSince.isEmpty());
        return !begun && d.needs.get(act).add(subject);
    }

    private String turn(int desk) {
        if (find(desk) == null) {
            return "IllegalArgumentException";
        }
        if (told == 300 || closed) {
            return "IllegalStateException";
        }
        told++;
        schedule.add(find(desk));
        return "" + schedule.size();
    }

    private int run() {
        int before = desks.stream().mapToInt(d -> d.done).sum();
        while (!schedule.isEmpty()) {
            step(schedule.remove());
        }
        return desks.stream().mapToInt(d -> d.done).sum() - before;
    }

    private void step(Desk d) {
        if (d.state != State.GOES) {
            passed++;
            return;
        }
        TreeSet<Integer> lacks = new TreeSet<>(d.needs.get(d.act));
        lacks.removeAll(d.heldSince.keySet());
        if (!lacks.isEmpty()) {
            ask(d, lacks.first());
        } else if (d.failsStill && d.fails == d.act) {
            write(2, d);
            d.failsStill = false;
            release(d);
        } else {
            write(1, d);
            d.done++;
            release(d);
            moveOn(d);
        }
    }

    private void ask(Desk d, int subject) {
        if (holder(subject) == null) {
            d.heldSince.put(subject, time);
        } else {
            d.state = State.WAITS;
            d.waitsFor = subject;
            queues.get(subject).add(d);
        }
    }

    private void moveOn(Desk d) {
        d.act++;
        d.state = d.act == d.needs.size() ? State.FINISHED : State.GOES;
    }

    private void leaveQueue(Desk d) {
        if (d.state == State.WAITS) {
            queues.get(d.waitsFor).remove(d);
            d.waitsFor = null;
            d.state = State.GOES;
        }
    }

    private void release(Desk d) {
        for (int subject : new TreeSet<>(d.heldSince.keySet())) {
            release(d, subject);
        }
    }

    private void release(Desk d, int subject) {
        d.heldSince.remove(subject);
        Desk next = queues.get(subject).peek();
        if (next != null) {
            leaveQueue(next);
            next.heldSince.put(subject, time);
        }
    }

    private void write(int what, Desk d) {
        if (log.size() < 400) {
            log.add(1000 * what + 100 * desks.indexOf(d) + d.act);
        }
    }

    private String waits(int subject, int i) {
        if (!queues.containsKey(subject)) {
            return "IllegalArgumentException";
        }
        List<Desk> queue = new ArrayList<>(queues.get(subject));
        return "" + (i >= 0 && i < queue.size() ? desks.indexOf(queue.get(i)) : -1);
    }

    private boolean interrupt(Desk d) {
        if (d == null || d.state != State.WAITS) {
            return false;
        }
        leaveQueue(d);
        release(d);
        write(3, d);
        moveOn(d);
        return true;
    }

    private int die(Desk d) {
        if (d.state != State.GOES && d.state != State.WAITS) {
            return -1;
        }
        leaveQueue(d);
        d.state = State.DEAD;
        return d.heldSince.size();
    }

    private String tick(int to) {
        if (to < time || to > 100000) {
            return "IllegalArgumentException";
        }
        time = to;
        int freed = 0;
        for (Desk d : desks) {
            for (int subject : new TreeSet<>(d.heldSince.keySet())) {
                if (d.state == State.DEAD && d.heldSince.get(subject) + 100 < to) {
                    release(d, subject);
                    freed++;
                }
            }
        }
        return "" + freed;
    }

    private int close() {
        if (closed) {
            return -1;
        }
        closed = true;
        int ended = 0;
        for (Desk d : desks) {
            if (d.state == State.FINISHED) {
                continue;
            }
            if (d.state == State.WAITS || !d.heldSince.isEmpty()) {
                write(4, d);
            }
            leaveQueue(d);
            d.state = State.ENDED;
            release(d);
            ended++;
        }
        return ended;
    }

    private int look(Desk d, int what) {
        return switch (what) {
            case 0 -> d.act;
            case 1 -> d.done;
            case 2 -> d.state.ordinal();
            case 3 -> d.heldSince.keySet().stream().mapToInt(s -> 1 << s).sum();
            default -> d.waitsFor == null ? -1 : d.waitsFor;
        };
    }

    private int count(int what) {
        return switch (what) {
            case 0 -> desks.size();
            case 1 -> log.size();
            case 2 -> told;
            case 3 -> passed;
            case 4 -> time;
            case 5 -> closed ? 1 : 0;
            case 6 -> desks.stream().mapToInt(d -> d.heldSince.size()).sum();
            default -> -1;
        };
    }
}
