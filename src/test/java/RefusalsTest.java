import java.util.function.Function;
import java.util.function.Supplier;

/** "Of several exceptions the one told first is thrown. What throws or is refused changes nothing." */
public final class RefusalsTest extends Scenes {
    private static final String ARGUMENT = "IllegalArgumentException";
    private static final String STATE = "IllegalStateException";
    private static final String BOUNDS = "IndexOutOfBoundsException";

    private static final Due due = new Due();

    public static void main(String[] args) {
        firstExceptions();
        refusedAmidst();
        refusedWhenFull();
        refusedWhenClosed();
        due.end();
    }

    private static void firstExceptions() {
        thrown("8 desks, no such acts", RefusalsTest::full, x -> x.desk(0, NONE), ARGUMENT);
        thrown("8 desks, none such fails", RefusalsTest::full, x -> x.desk(1, 1), ARGUMENT);
        thrown("8 desks, all well told", RefusalsTest::full, x -> x.desk(1, 0), STATE);
        thrown("closed, no such acts", RefusalsTest::closed, x -> x.desk(13, NONE), ARGUMENT);
        thrown("closed, none such fails", RefusalsTest::closed, x -> x.desk(1, -2), ARGUMENT);
        thrown("closed, all well told", RefusalsTest::closed, x -> x.desk(12, 11), STATE);
        thrown("closed with 8 desks", RefusalsTest::fullAndClosed, x -> x.desk(12, 11), STATE);
        thrown("300 turns, no such desk", RefusalsTest::full, x -> x.turn(8), ARGUMENT);
        thrown("300 turns, a desk", RefusalsTest::full, x -> x.turn(7), STATE);
        thrown("closed, no such desk", RefusalsTest::closed, x -> x.turn(7), ARGUMENT);
        thrown("closed, a desk", RefusalsTest::closed, x -> x.turn(6), STATE);
        thrown("closed with 300 turns, no such desk", RefusalsTest::fullAndClosed, x -> x.turn(-1), ARGUMENT);
        thrown("closed with 300 turns, a desk", RefusalsTest::fullAndClosed, x -> x.turn(0), STATE);
        thrown("closed, no desk to die", RefusalsTest::closed, x -> x.dead(7), ARGUMENT);
        thrown("closed, a time that is past", RefusalsTest::closed, x -> x.tick(39), ARGUMENT);
        thrown("neither desk nor what", RefusalsTest::busy, x -> x.look(7, 5), BOUNDS);
        thrown("neither subject nor i", RefusalsTest::busy, x -> x.waits(16, -1), ARGUMENT);
    }

    private static void refusedAmidst() {
        Supplier<DeskTurns> busy = RefusalsTest::busy;
        refused("desk(0, NONE)", busy, x -> x.desk(0, NONE), ARGUMENT);
        refused("desk(13, NONE)", busy, x -> x.desk(13, NONE), ARGUMENT);
        refused("desk(2, 2)", busy, x -> x.desk(2, 2), ARGUMENT);
        refused("desk(2, -2)", busy, x -> x.desk(2, -2), ARGUMENT);
        refused("needs of no desk", busy, x -> x.needs(7, 0, 1), "false");
        refused("needs of no act", busy, x -> x.needs(0, 3, 1), "false");
        refused("needs of no act, below", busy, x -> x.needs(0, -1, 1), "false");
        refused("needs of no subject", busy, x -> x.needs(0, 1, 16), "false");
        refused("needs of no subject, below", busy, x -> x.needs(0, 1, -1), "false");
        refused("needs of no subject, 32", busy, x -> x.needs(0, 1, 32), "false");
        refused("needs that is there already", busy, x -> x.needs(0, 1, 6), "false");
        refused("needs, it holds", busy, x -> x.needs(0, 0, 1), "false");
        refused("needs, it waits", busy, x -> x.needs(1, 0, 1), "false");
        refused("needs, it holds and waits", busy, x -> x.needs(2, 0, 1), "false");
        refused("needs, it is dead and holds", busy, x -> x.needs(4, 0, 1), "false");
        refused("needs, done", busy, x -> x.needs(6, 0, 1), "false");
        refused("needs, skipped", busy, x -> x.needs(5, 0, 1), "false");
        refused("needs, finished", busy, x -> x.needs(3, 0, 1), "false");
        refused("turn of no desk", busy, x -> x.turn(7), ARGUMENT);
        refused("turn of no desk, below", busy, x -> x.turn(-1), ARGUMENT);
        refused("log ahead", busy, x -> x.log(-1), "-1");
        refused("log behind", busy, x -> x.log(400), "-1");
        refused("holder(16)", busy, x -> x.holder(16), ARGUMENT);
        refused("waits(16, 0)", busy, x -> x.waits(16, 0), ARGUMENT);
        refused("waits(5, 7)", busy, x -> x.waits(5, 7), "-1");
        refused("interrupt of no desk", busy, x -> x.interrupt(7), "false");
        refused("interrupt, it holds", busy, x -> x.interrupt(0), "false");
        refused("interrupt, finished", busy, x -> x.interrupt(3), "false");
        refused("interrupt, dead", busy, x -> x.interrupt(4), "false");
        refused("interrupt, it was", busy, x -> x.interrupt(5), "false");
        refused("dead of no desk", busy, x -> x.dead(7), ARGUMENT);
        refused("dead, finished", busy, x -> x.dead(3), "-1");
        refused("dead, dead", busy, x -> x.dead(4), "-1");
        refused("tick, ahead of the latest", busy, x -> x.tick(39), ARGUMENT);
        refused("tick(100001)", busy, x -> x.tick(100001), ARGUMENT);
        refused("look at no desk", busy, x -> x.look(7, 0), BOUNDS);
        refused("look at no what", busy, x -> x.look(1, 5), BOUNDS);
        refused("count(7)", busy, x -> x.count(7), "-1");
    }

    private static void refusedWhenFull() {
        refused("a ninth desk", RefusalsTest::full, x -> x.desk(1, 0), STATE);
        refused("turn 301", RefusalsTest::full, x -> x.turn(7), STATE);
        refused("turn 301 of no desk", RefusalsTest::full, x -> x.turn(8), ARGUMENT);
    }

    private static void refusedWhenClosed() {
        Supplier<DeskTurns> closed = RefusalsTest::closed;
        refused("closed: desk(1, NONE)", closed, x -> x.desk(1, NONE), STATE);
        refused("closed: needs(0, 1, 1)", closed, x -> x.needs(0, 1, 1), "false");
        refused("closed: turn(0)", closed, x -> x.turn(0), STATE);
        refused("closed: run()", closed, DeskTurns::run, STATE);
        refused("closed: interrupt(1)", closed, x -> x.interrupt(1), "false");
        refused("closed: dead(0)", closed, x -> x.dead(0), "-1");
        refused("closed: dead(3)", closed, x -> x.dead(3), "-1");
        refused("closed: tick(39)", closed, x -> x.tick(39), ARGUMENT);
        refused("closed: tick(100001)", closed, x -> x.tick(100001), ARGUMENT);
        refused("closed: close()", closed, DeskTurns::close, "-1");
    }

    private static void thrown(String when, Supplier<DeskTurns> scene, Function<DeskTurns, Object> call, String want) {
        due.test("the one told first is thrown: " + when, () -> due.is("it", answer(scene.get(), call), want));
    }

    /** Two objects with one past, of which one refuses a call: now and later they are alike. */
    private static void refused(String what, Supplier<DeskTurns> scene, Function<DeskTurns, Object> call, String want) {
        due.test("refused, it changes nothing: " + what, () -> {
            DeskTurns x = scene.get();
            DeskTurns twin = scene.get();
            due.is("it", answer(x, call), want);
            due.is("what can be read now", state(x), state(twin));
            due.is("what comes of it", future(x), future(twin));
        });
    }

    private static String answer(DeskTurns x, Function<DeskTurns, Object> call) {
        try {
            return String.valueOf(call.apply(x));
        } catch (RuntimeException e) {
            return e.getClass().getSimpleName();
        }
    }

    /** Lets all that is hidden come to light: turns not yet run, needs, fails, times. */
    private static String future(DeskTurns x) {
        StringBuilder future = new StringBuilder(answer(x, DeskTurns::run));
        if (x.count(2) < 200 && x.count(5) == 0) {
            for (int round = 0; round < 3; round++) {
                future.append(' ').append(go(x, 0, 1, 2, 3, 4, 5, 6));
            }
        }
        int time = x.count(4);
        future.append(", freed ").append(x.tick(time + 100)).append(" and ").append(x.tick(time + 101));
        future.append(", ").append(state(x));
        future.append(", ended ").append(x.close());
        for (int i = 0; i < 10; i++) {
            future.append(' ').append(x.log(x.count(1) - i));
        }
        return future.toString();
    }

    /**
     * Of seven desks 0 holds 5; 1 waits for it; 2 holds 3 and waits for 5; 3 is finished; 4 is dead and holds 9;
     * 5 has skipped an act; 6 has done one and waits for 9. Two turns were told and are not yet run.
     */
    private static DeskTurns busy() {
        DeskTurns x = withDesks(3);
        x.desk(3, 1);
        for (int acts : new int[] {2, 1, 2, 2, 3}) {
            x.desk(acts, NONE);
        }
        needsAll(x, 0, 0, 5);
        needsAll(x, 0, 1, 6);
        needsAll(x, 1, 0, 5);
        needsAll(x, 2, 0, 3, 5);
        needsAll(x, 4, 0, 9);
        needsAll(x, 5, 0, 5);
        needsAll(x, 6, 1, 9);
        x.tick(40);
        go(x, 0, 5, 1, 2, 2, 3, 4, 6, 6);
        x.interrupt(5);
        x.dead(4);
        x.turn(0);
        x.turn(1);
        return x;
    }

    /** Eight desks, the last of which has done an act; 300 turns told, two of which are not yet run. */
    private static DeskTurns full() {
        DeskTurns x = withDesks(2, 2, 2, 2, 2, 2, 2, 2);
        x.needs(0, 0, 5);
        x.needs(1, 0, 5);
        x.turn(7);
        x.turn(0);
        goOften(x, 1, 296);
        x.turn(0);
        x.turn(1);
        return x;
    }

    private static DeskTurns closed() {
        DeskTurns x = busy();
        x.close();
        return x;
    }

    private static DeskTurns fullAndClosed() {
        DeskTurns x = full();
        x.close();
        return x;
    }
}
