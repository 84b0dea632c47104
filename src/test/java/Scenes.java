import java.util.stream.IntStream;

/** Beginnings that the tests share; a test extends this so as to use them by their plain names. */
abstract class Scenes {
    static final int NONE = DeskTurns.NONE;

    // Cut to fewer bits, as by a shift or a cast to byte, most of these would be a number that is there.
    private static final int[] FAR = {Integer.MIN_VALUE, Integer.MIN_VALUE + 1, -65536, -256, -32, -16, -2,
        32, 256, 65536, 1 << 30, Integer.MAX_VALUE - 1, Integer.MAX_VALUE};

    /** The neighbours of first .. last, and numbers far away from it. */
    static int[] outside(int first, int last) {
        IntStream far = IntStream.of(FAR).filter(i -> i < first - 1 || i > last + 1);
        return IntStream.concat(IntStream.of(first - 1, last + 1), far).toArray();
    }

    /** Tells a turn of each desk, in this order, and runs them: how many acts were done. */
    static int go(DeskTurns x, int... desks) {
        for (int desk : desks) {
            x.turn(desk);
        }
        return x.run();
    }

    /** So many turns of one desk, one run for all. */
    static int goOften(DeskTurns x, int desk, int turns) {
        return go(x, IntStream.generate(() -> desk).limit(turns).toArray());
    }

    /** Desks with so many acts, none of which fails. */
    static DeskTurns withDesks(int... acts) {
        DeskTurns x = new DeskTurns();
        for (int n : acts) {
            x.desk(n, NONE);
        }
        return x;
    }

    static void needsAll(DeskTurns x, int desk, int act, int... subjects) {
        for (int subject : subjects) {
            x.needs(desk, act, subject);
        }
    }

    /** Desk 0 holds subject 5; the desks behind it wait for it, by numbers. */
    static DeskTurns waitingFor5(int... acts) {
        DeskTurns x = withDesks(acts);
        for (int d = 0; d < acts.length; d++) {
            x.needs(d, 0, 5);
        }
        go(x, IntStream.range(0, acts.length).toArray());
        return x;
    }

    /** All that can be read of an object, in few calls: what two objects with the same past must agree in. */
    static String state(DeskTurns x) {
        StringBuilder state = new StringBuilder("counts");
        for (int what = 0; what <= 6; what++) {
            state.append(' ').append(x.count(what));
        }
        int desks = x.count(0);
        for (int d = 0; d < desks; d++) {
            state.append(", desk ").append(d);
            for (int what = 0; what <= 4; what++) {
                state.append(' ').append(x.look(d, what));
            }
        }
        for (int s = 0; s < 16; s++) {
            state.append(", subject ").append(s).append(' ').append(x.holder(s));
            int next = x.waits(s, 0);
            for (int i = 1; next != NONE && i <= 8; i++) {
                state.append(' ').append(next);
                next = x.waits(s, i);
            }
        }
        state.append(", log");
        int entries = x.count(1);
        for (int i = 0; i < entries; i++) {
            state.append(' ').append(x.log(i));
        }
        return state.toString();
    }
}
