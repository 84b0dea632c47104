import java.util.Arrays;

/** Desks that do acts in turns under one schedule; the log of acts follows from the schedule alone. */
public final class DeskTurns {
    public static final int NONE = -1;

    private static final int MOST_DESKS = 8;
    private static final int MOST_ACTS = 12;
    private static final int SUBJECTS = 16;
    private static final int MOST_TURNS = 300;
    private static final int MOST_ENTRIES = 400;
    private static final int LAST_TIME = 100000;
    private static final int KEPT_BY_THE_DEAD = 100;

    private static final int MAY_GO_ON = 0;
    private static final int WAITS = 1;
    private static final int FINISHED = 2;
    private static final int DEAD = 3;
    private static final int ENDED = 4;

    private static final int TOLD_DONE = 1;
    private static final int TOLD_UNDONE = 2;
    private static final int TOLD_SKIPPED = 3;
    private static final int TOLD_ENDED = 4;

    /** What one desk knows of itself; who holds a subject stands in one place alone, with the subjects. */
    private static final class Desk {
        final int number;
        final int acts;
        final int[] needed = new int[MOST_ACTS];
        int failsAt;
        int present = 0;
        int actsDone = 0;
        int waitsFor = NONE;
        int askedAs = 0;
        boolean isDead = false;
        boolean hasEnded = false;

        Desk(int number, int acts, int failsAt) {
            this.number = number;
            this.acts = acts;
            this.failsAt = failsAt;
        }

        int condition() {
            if (hasEnded) {
                return ENDED;
            }
            if (isDead) {
                return DEAD;
            }
            if (present >= acts) {
                return FINISHED;
            }
            return waitsFor != NONE ? WAITS : MAY_GO_ON;
        }

        boolean isAhead(int act) {
            return act >= 0 && act >= present && act < acts;
        }

        boolean hasNeed(int act, int subject) {
            return act >= 0 && act < needed.length && (needed[act] >> subject & 1) != 0;
        }

        void addNeed(int act, int subject) {
            if (act >= 0 && act < needed.length) {
                needed[act] |= 1 << subject;
            }
        }
    }

    private final Desk[] desks = new Desk[MOST_DESKS];
    private int deskCount = 0;

    private final int[] holders = new int[SUBJECTS];
    private final int[] gotAt = new int[SUBJECTS];
    // Numbers the askings that had to wait, so that the order of asking needs no queue of its own.
    private int askings = 0;

    private final int[] turns = new int[MOST_TURNS];
    private int turnsTold = 0;
    private int turnsRun = 0;
    private int turnsPassedOver = 0;

    private final int[] entries = new int[MOST_ENTRIES];
    private int entryCount = 0;

    private int time = 0;
    private boolean closed = false;

    public DeskTurns() {
        Arrays.fill(holders, NONE);
    }

    public int desk(int acts, int failsAt) throws IllegalArgumentException, IllegalStateException {
        if (acts < 1 || acts > MOST_ACTS) {
            throw new IllegalArgumentException("a desk has 1 .. 12 acts");
        }
        if (failsAt < NONE || failsAt >= acts) {
            throw new IllegalArgumentException("the act that fails is one of the desk's, or NONE");
        }
        if (closed || deskCount >= MOST_DESKS) {
            throw new IllegalStateException("closed, or 8 desks already");
        }
        int number = deskCount;
        desks[number] = new Desk(number, acts, failsAt);
        deskCount++;
        return number;
    }

    public boolean needs(int desk, int act, int subject) {
        Desk d = deskAt(desk);
        if (closed || d == null || !isSubject(subject)) {
            return false;
        }
        if (!d.isAhead(act) || d.hasNeed(act, subject)) {
            return false;
        }
        if (act == d.present && isInTheMidst(d)) {
            return false;
        }
        d.addNeed(act, subject);
        return true;
    }

    public int turn(int desk) throws IllegalArgumentException, IllegalStateException {
        if (deskAt(desk) == null) {
            throw new IllegalArgumentException("no such desk");
        }
        if (closed || turnsTold >= MOST_TURNS) {
            throw new IllegalStateException("closed, or 300 turns were told already");
        }
        turns[turnsTold] = desk;
        turnsTold++;
        return turnsTold - turnsRun;
    }

    public int run() throws IllegalStateException {
        if (closed) {
            throw new IllegalStateException("closed");
        }
        int done = 0;
        for (int i = turnsRun; i < turnsTold && i < turns.length; i++) {
            Desk d = deskAt(turns[i]);
            if (d != null && takeTurn(d)) {
                done++;
            }
        }
        turnsRun = turnsTold;
        return done;
    }

    public int log(int i) {
        return i >= 0 && i < entryCount && i < entries.length ? entries[i] : NONE;
    }

    public int holder(int subject) throws IllegalArgumentException {
        if (!isSubject(subject)) {
            throw new IllegalArgumentException("no such subject");
        }
        return holders[subject];
    }

    public int waits(int subject, int i) throws IllegalArgumentException {
        if (!isSubject(subject)) {
            throw new IllegalArgumentException("no such subject");
        }
        Desk d = waiterFor(subject, i);
        return d == null ? NONE : d.number;
    }

    public boolean interrupt(int desk) {
        Desk d = deskAt(desk);
        if (d == null || d.waitsFor == NONE) {
            return false;
        }
        d.waitsFor = NONE;
        giveBackAll(d);
        tell(TOLD_SKIPPED, d);
        d.present++;
        return true;
    }

    public int dead(int desk) throws IllegalArgumentException {
        Desk d = deskAt(desk);
        if (d == null) {
            throw new IllegalArgumentException("no such desk");
        }
        if (!isAlive(d)) {
            return NONE;
        }
        d.waitsFor = NONE;
        d.isDead = true;
        return Integer.bitCount(heldBy(d));
    }

    public int tick(int time) throws IllegalArgumentException {
        if (time < this.time || time > LAST_TIME) {
            throw new IllegalArgumentException("a time is not ahead of the latest one, and 100000 at most");
        }
        // Set before anything is freed: who waited for a freed subject gets it at the new time.
        this.time = time;
        int freed = 0;
        for (int s = 0; s < SUBJECTS; s++) {
            if (isOverdue(s)) {
                giveBack(s);
                freed++;
            }
        }
        return freed;
    }

    public int close() {
        if (closed) {
            return NONE;
        }
        closed = true;
        int ended = 0;
        for (int i = 0; i < deskCount && i < desks.length; i++) {
            Desk d = desks[i];
            if (d != null && d.condition() != FINISHED) {
                end(d);
                ended++;
            }
        }
        return ended;
    }

    public int look(int desk, int what) throws IndexOutOfBoundsException {
        Desk d = deskAt(desk);
        if (d == null) {
            throw new IndexOutOfBoundsException("no such desk");
        }
        switch (what) {
            case 0:
                return d.present;
            case 1:
                return d.actsDone;
            case 2:
                return d.condition();
            case 3:
                return heldBy(d);
            case 4:
                return d.waitsFor;
            default:
                throw new IndexOutOfBoundsException("no such what");
        }
    }

    public int count(int what) {
        switch (what) {
            case 0:
                return deskCount;
            case 1:
                return entryCount;
            case 2:
                return turnsTold;
            case 3:
                return turnsPassedOver;
            case 4:
                return time;
            case 5:
                return closed ? 1 : 0;
            case 6:
                return subjectsHeld();
            default:
                return NONE;
        }
    }

    private Desk deskAt(int number) {
        return number >= 0 && number < deskCount && number < desks.length ? desks[number] : null;
    }

    private static boolean isSubject(int subject) {
        return subject >= 0 && subject < SUBJECTS;
    }

    private static boolean isAlive(Desk desk) {
        int condition = desk.condition();
        return condition == MAY_GO_ON || condition == WAITS;
    }

    private boolean isInTheMidst(Desk desk) {
        return desk.waitsFor != NONE || heldBy(desk) != 0;
    }

    private int heldBy(Desk desk) {
        int held = 0;
        for (int s = 0; s < SUBJECTS; s++) {
            if (holders[s] == desk.number) {
                held |= 1 << s;
            }
        }
        return held;
    }

    private int subjectsHeld() {
        int held = 0;
        for (int s = 0; s < SUBJECTS; s++) {
            if (holders[s] != NONE) {
                held++;
            }
        }
        return held;
    }

    /** Answers whether an act was done. */
    private boolean takeTurn(Desk desk) {
        if (desk.condition() != MAY_GO_ON) {
            turnsPassedOver++;
            return false;
        }
        int lacking = leastLacking(desk);
        if (isSubject(lacking)) {
            ask(desk, lacking);
            return false;
        }
        return doOrUndo(desk);
    }

    private int leastLacking(Desk desk) {
        for (int s = 0; s < SUBJECTS; s++) {
            if (desk.hasNeed(desk.present, s) && holders[s] != desk.number) {
                return s;
            }
        }
        return NONE;
    }

    private void ask(Desk desk, int subject) {
        if (holders[subject] == NONE) {
            take(desk, subject);
            return;
        }
        desk.waitsFor = subject;
        desk.askedAs = askings;
        askings++;
    }

    private void take(Desk desk, int subject) {
        desk.waitsFor = NONE;
        holders[subject] = desk.number;
        gotAt[subject] = time;
    }

    private boolean doOrUndo(Desk desk) {
        boolean fails = desk.present == desk.failsAt;
        tell(fails ? TOLD_UNDONE : TOLD_DONE, desk);
        giveBackAll(desk);
        if (fails) {
            desk.failsAt = NONE;
            return false;
        }
        desk.present++;
        desk.actsDone++;
        return true;
    }

    private void giveBackAll(Desk desk) {
        for (int s = 0; s < SUBJECTS; s++) {
            if (holders[s] == desk.number) {
                giveBack(s);
            }
        }
    }

    private void giveBack(int subject) {
        holders[subject] = NONE;
        Desk next = waiterFor(subject, 0);
        if (next != null) {
            take(next, subject);
        }
    }

    private Desk waiterFor(int subject, int place) {
        for (int i = 0; i < deskCount && i < desks.length; i++) {
            Desk d = desks[i];
            if (d != null && d.waitsFor == subject && waitersAheadOf(d) == place) {
                return d;
            }
        }
        return null;
    }

    private int waitersAheadOf(Desk desk) {
        int ahead = 0;
        for (int i = 0; i < deskCount && i < desks.length; i++) {
            Desk d = desks[i];
            if (d != null && d.waitsFor == desk.waitsFor && d.askedAs < desk.askedAs) {
                ahead++;
            }
        }
        return ahead;
    }

    private boolean isOverdue(int subject) {
        Desk d = deskAt(holders[subject]);
        return d != null && d.condition() == DEAD && time - gotAt[subject] > KEPT_BY_THE_DEAD;
    }

    private void end(Desk desk) {
        boolean inTheMidst = isInTheMidst(desk);
        desk.waitsFor = NONE;
        desk.hasEnded = true;
        giveBackAll(desk);
        if (inTheMidst) {
            tell(TOLD_ENDED, desk);
        }
    }

    private void tell(int what, Desk desk) {
        if (entryCount < entries.length) {
            entries[entryCount] = 1000 * what + 100 * desk.number + desk.present;
            entryCount++;
        }
    }
}
