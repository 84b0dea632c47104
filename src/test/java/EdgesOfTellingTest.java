/** One test for each sentence of promises 1 to 5 (a new object, desk, needs, turn, run) that names a boundary. */
public final class EdgesOfTellingTest extends Scenes {
    private static final Due due = new Due();

    public static void main(String[] args) {
        due.test("1: No desks", EdgesOfTellingTest::noDesks);
        due.test("1: TIME 0", () -> due.is("count(4)", new DeskTurns().count(4), 0));
        due.test("1: nothing is held, waited for or told", EdgesOfTellingTest::nothingYet);
        due.test("2: its number", EdgesOfTellingTest::deskNumbers);
        due.test("2: IllegalArgumentException if there are not 1 .. 12 acts", EdgesOfTellingTest::actsOutside);
        due.test("2: .. or none such fails", EdgesOfTellingTest::failsOutside);
        due.test("2: IllegalStateException if there are 8", EdgesOfTellingTest::desksFull);
        due.test("2: .. or it is CLOSED", EdgesOfTellingTest::deskWhenClosed);
        due.test("3: true, besides others", EdgesOfTellingTest::needsBesidesOthers);
        due.test("3: false if there is no such desk", EdgesOfTellingTest::needsOfNoDesk);
        due.test("3: .. act", EdgesOfTellingTest::needsOfNoAct);
        due.test("3: .. or subject", EdgesOfTellingTest::needsOfNoSubject);
        due.test("3: it does already", EdgesOfTellingTest::needsAlready);
        due.test("3: the present one of a desk that holds something", EdgesOfTellingTest::needsOfAHolder);
        due.test("3: .. or waits", EdgesOfTellingTest::needsOfAWaiter);
        due.test("3: the present one of a desk that neither holds nor waits", EdgesOfTellingTest::needsNotBegun);
        due.test("3: or is behind (done", EdgesOfTellingTest::needsOfADoneAct);
        due.test("3: .. or skipped)", EdgesOfTellingTest::needsOfASkippedAct);
        due.test("3: an act that was undone is not behind", EdgesOfTellingTest::needsOfAnUndoneAct);
        due.test("3: or it is CLOSED", EdgesOfTellingTest::needsWhenClosed);
        due.test("4: how many wait to be run", EdgesOfTellingTest::turnsWaiting);
        due.test("4: a turn that will be passed over can be told", EdgesOfTellingTest::turnsInVain);
        due.test("4: IllegalArgumentException if there is no such desk", EdgesOfTellingTest::turnOfNoDesk);
        due.test("4: IllegalStateException if 300 were told", EdgesOfTellingTest::turnsFull);
        due.test("4: .. or it is CLOSED", EdgesOfTellingTest::turnWhenClosed);
        due.test("5: All turns that were told: none", EdgesOfTellingTest::runOfNothing);
        due.test("5: All turns that were told: 300", EdgesOfTellingTest::runOfAll);
        due.test("5: how many acts were done by that", EdgesOfTellingTest::actsDoneByThat);
        due.test("5: IllegalStateException if it is CLOSED", EdgesOfTellingTest::runWhenClosed);
        due.end();
    }

    private static void noDesks() {
        DeskTurns x = new DeskTurns();
        due.is("count(0)", x.count(0), 0);
        due.outOfBounds("look(0, 0)", () -> x.look(0, 0));
        due.illegalArgument("turn(0)", () -> x.turn(0));
        due.illegalArgument("dead(0)", () -> x.dead(0));
        due.is("interrupt(0)", x.interrupt(0), false);
        due.is("needs(0, 0, 0)", x.needs(0, 0, 0), false);
        due.is("close()", x.close(), 0);
    }

    private static void nothingYet() {
        DeskTurns x = new DeskTurns();
        for (int s = 0; s < 16; s++) {
            due.is("holder(" + s + ")", x.holder(s), NONE);
            due.is("waits(" + s + ", 0)", x.waits(s, 0), NONE);
        }
        for (int what = 0; what <= 6; what++) {
            due.is("count(" + what + ")", x.count(what), 0);
        }
        due.is("log(0)", x.log(0), NONE);
    }

    private static void deskNumbers() {
        DeskTurns x = new DeskTurns();
        due.is("the first", x.desk(1, 0), 0);
        due.illegalArgument("one that is refused", () -> x.desk(1, 1));
        due.is("has no number", x.desk(12, 11), 1);
        x.dead(0);
        due.is("the number of a dead one is used no more", x.desk(1, NONE), 2);
    }

    private static void actsOutside() {
        DeskTurns x = new DeskTurns();
        for (int acts : outside(1, 12)) {
            due.illegalArgument("desk(" + acts + ", NONE)", () -> x.desk(acts, NONE));
            due.illegalArgument("desk(" + acts + ", 0)", () -> x.desk(acts, 0));
        }
        due.is("desk(1, NONE)", x.desk(1, NONE), 0);
        due.is("desk(12, NONE)", x.desk(12, NONE), 1);
    }

    private static void failsOutside() {
        for (int acts = 1; acts <= 12; acts++) {
            DeskTurns x = new DeskTurns();
            int n = acts;
            for (int fails : outside(NONE, acts - 1)) {
                due.illegalArgument("desk(" + n + ", " + fails + ")", () -> x.desk(n, fails));
            }
            due.is("desk(" + n + ", the last)", x.desk(n, n - 1), 0);
            due.is("desk(" + n + ", the first)", x.desk(n, 0), 1);
            due.is("desk(" + n + ", NONE)", x.desk(n, NONE), 2);
        }
    }

    private static void desksFull() {
        DeskTurns x = withDesks(1, 1, 1, 1, 1, 1, 1);
        due.is("the eighth", x.desk(1, NONE), 7);
        due.illegalState("the ninth", () -> x.desk(1, NONE));
        go(x, 0);
        x.dead(1);
        due.illegalState("finished and dead ones are still there", () -> x.desk(1, NONE));
    }

    private static void deskWhenClosed() {
        DeskTurns x = new DeskTurns();
        x.close();
        due.illegalState("desk(1, NONE)", () -> x.desk(1, NONE));
        due.is("count(0)", x.count(0), 0);
    }

    private static void needsBesidesOthers() {
        DeskTurns x = withDesks(1, 1, 1, 1, 1, 1, 1, 12);
        for (int s : new int[] {15, 0, 8}) {
            due.is("needs(7, 11, " + s + ")", x.needs(7, 11, s), true);
            due.is("needs(0, 0, " + s + ")", x.needs(0, 0, s), true);
        }
        goOften(x, 7, 11);
        goOften(x, 7, 3);
        due.is("all three", x.look(7, 3), 1 << 15 | 1 << 8 | 1);
    }

    private static void needsOfNoDesk() {
        DeskTurns x = withDesks(2, 2);
        due.is("needs(2, 0, 0)", x.needs(2, 0, 0), false);
        due.is("needs(-1, 0, 0)", x.needs(-1, 0, 0), false);
        for (int no : outside(0, 7)) {
            due.is("needs(" + no + ", 0, 0)", x.needs(no, 0, 0), false);
        }
        due.is("needs(1, 0, 0)", x.needs(1, 0, 0), true);
        x.desk(1, NONE);
        due.is("a desk that comes later needs nothing", go(x, 2), 1);
    }

    private static void needsOfNoAct() {
        DeskTurns x = withDesks(12, 1);
        for (int no : outside(0, 11)) {
            due.is("needs(0, " + no + ", 0)", x.needs(0, no, 0), false);
        }
        for (int no : outside(0, 0)) {
            due.is("needs(1, " + no + ", 0)", x.needs(1, no, 0), false);
        }
        due.is("needs(0, 11, 0)", x.needs(0, 11, 0), true);
        due.is("needs(1, 0, 0)", x.needs(1, 0, 0), true);
    }

    private static void needsOfNoSubject() {
        DeskTurns x = withDesks(1);
        for (int no : outside(0, 15)) {
            due.is("needs(0, 0, " + no + ")", x.needs(0, 0, no), false);
        }
        due.is("the act needs nothing", go(x, 0), 1);
    }

    private static void needsAlready() {
        DeskTurns x = withDesks(2, 2);
        for (int s : new int[] {0, 15}) {
            due.is("needs(0, 0, " + s + ")", x.needs(0, 0, s), true);
            due.is("again", x.needs(0, 0, s), false);
            due.is("another act's", x.needs(0, 1, s), true);
            due.is("another desk's", x.needs(1, 1, s), true);
            due.is("an earlier act's", x.needs(1, 0, s), true);
        }
        go(x, 0, 0);
        due.is("again is no taking back", x.look(0, 3), 1 << 15 | 1);
    }

    private static void needsOfAHolder() {
        DeskTurns x = withDesks(2);
        needsAll(x, 0, 0, 6, 7);
        go(x, 0);
        due.is("it holds one of two", x.needs(0, 0, 9), false);
        go(x, 0);
        due.is("it holds both", x.needs(0, 0, 9), false);
        due.is("a later act", x.needs(0, 1, 9), true);
        due.is("the act goes on without", go(x, 0), 1);
    }

    private static void needsOfAWaiter() {
        DeskTurns x = waitingFor5(1, 2);
        due.is("it holds nothing", x.look(1, 3), 0);
        due.is("the present act", x.needs(1, 0, 9), false);
        due.is("a later act", x.needs(1, 1, 9), true);
        due.is("the act goes on without", go(x, 0, 1), 2);
    }

    private static void needsNotBegun() {
        DeskTurns x = withDesks(2, 1);
        go(x, 0);
        x.turn(1);
        due.is("the last act", x.needs(0, 1, 9), true);
        due.is("a turn told is not begun", x.needs(1, 0, 9), true);
        go(x, 0);
        due.is("holder(9)", x.holder(9), 1);
    }

    private static void needsOfADoneAct() {
        DeskTurns x = withDesks(3);
        go(x, 0, 0);
        due.is("act 0", x.needs(0, 0, 9), false);
        due.is("act 1", x.needs(0, 1, 9), false);
        due.is("act 2", x.needs(0, 2, 9), true);
        go(x, 0, 0);
        due.is("act 2 of the finished", x.needs(0, 2, 8), false);
    }

    private static void needsOfASkippedAct() {
        DeskTurns x = waitingFor5(1, 2, 1);
        x.interrupt(1);
        x.interrupt(2);
        due.is("act 0", x.needs(1, 0, 9), false);
        due.is("act 1", x.needs(1, 1, 9), true);
        due.is("act 0 of one that is finished by it", x.needs(2, 0, 9), false);
    }

    private static void needsOfAnUndoneAct() {
        DeskTurns x = new DeskTurns();
        x.desk(1, 0);
        x.needs(0, 0, 3);
        go(x, 0, 0);
        due.is("log(0)", x.log(0), 2000);
        due.is("needs(0, 0, 9)", x.needs(0, 0, 9), true);
        due.is("needs(0, 0, 3)", x.needs(0, 0, 3), false);
        go(x, 0, 0);
        due.is("both", x.look(0, 3), 1 << 3 | 1 << 9);
    }

    private static void needsWhenClosed() {
        DeskTurns x = withDesks(2, 1);
        go(x, 1);
        x.close();
        due.is("the present act", x.needs(0, 0, 9), false);
        due.is("a later act", x.needs(0, 1, 9), false);
        due.is("a done act", x.needs(1, 0, 9), false);
        due.is("no desk", x.needs(2, 0, 9), false);
    }

    private static void turnsWaiting() {
        DeskTurns x = withDesks(2, 2);
        due.is("the first", x.turn(1), 1);
        due.is("the second", x.turn(1), 2);
        due.illegalArgument("one that is refused", () -> x.turn(2));
        due.is("the third", x.turn(0), 3);
        due.is("run", x.run(), 3);
        due.is("behind a run", x.turn(0), 1);
    }

    private static void turnsInVain() {
        DeskTurns x = waitingFor5(2, 1, 1, 1);
        x.dead(2);
        x.interrupt(3);
        due.is("one that waits", x.turn(1), 1);
        due.is("a dead one", x.turn(2), 2);
        due.is("a finished one", x.turn(3), 3);
        due.is("run", x.run(), 0);
        due.is("count(3)", x.count(3), 3);
    }

    private static void turnOfNoDesk() {
        DeskTurns x = withDesks(1, 1);
        due.illegalArgument("turn(2)", () -> x.turn(2));
        for (int no : outside(0, 7)) {
            due.illegalArgument("turn(" + no + ")", () -> x.turn(no));
        }
        due.is("count(2)", x.count(2), 0);
        due.is("turn(1)", x.turn(1), 1);
    }

    private static void turnsFull() {
        DeskTurns x = withDesks(1);
        for (int told = 1; told <= 300; told++) {
            due.is("turn " + told, x.turn(0), told);
        }
        due.illegalState("turn 301", () -> x.turn(0));
        x.run();
        due.illegalState("turn 301 behind a run", () -> x.turn(0));
        due.is("count(2)", x.count(2), 300);
    }

    private static void turnWhenClosed() {
        DeskTurns x = withDesks(1, 1);
        go(x, 0);
        x.close();
        due.illegalState("of a finished one", () -> x.turn(0));
        due.illegalState("of an ended one", () -> x.turn(1));
        due.is("count(2)", x.count(2), 1);
    }

    private static void runOfNothing() {
        due.is("without desks", new DeskTurns().run(), 0);
        DeskTurns x = withDesks(1);
        due.is("without turns", x.run(), 0);
        due.is("look(0, 1)", x.look(0, 1), 0);
        due.is("count(3)", x.count(3), 0);
    }

    private static void runOfAll() {
        DeskTurns x = withDesks(12, 12, 12, 12, 12, 12, 12, 12);
        for (int told = 0; told < 299; told++) {
            x.turn(told % 7);
        }
        x.turn(7);
        due.is("run", x.run(), 7 * 12 + 1);
        due.is("the last turn is run too", x.log(7 * 12), 1700);
        due.is("count(3)", x.count(3), 299 - 7 * 12);
    }

    private static void actsDoneByThat() {
        DeskTurns x = new DeskTurns();
        x.desk(3, 1);
        x.desk(1, NONE);
        x.needs(1, 0, 4);
        due.is("done, undone, an asking", go(x, 0, 0, 1), 1);
        due.is("done, done, done", go(x, 0, 1, 0), 3);
        due.is("passed over", go(x, 0, 1), 0);
        due.is("count(1)", x.count(1), 5);
    }

    private static void runWhenClosed() {
        DeskTurns x = withDesks(1);
        x.turn(0);
        x.close();
        due.illegalState("with a turn that was told", x::run);
        due.is("log(0)", x.log(0), NONE);
        due.is("a turn of an ENDED desk is not even passed over", x.count(3), 0);
        DeskTurns y = new DeskTurns();
        y.close();
        due.illegalState("without any", y::run);
    }
}
