/** One test for each sentence on interrupting, dying, time and closing (promises 9 to 12) that names a boundary. */
public final class EdgesOfEventsTest extends Scenes {
    private static final Due due = new Due();

    public static void main(String[] args) {
        due.test("9: true", EdgesOfEventsTest::interrupted);
        due.test("9: false if there is none such", EdgesOfEventsTest::interruptOfNoDesk);
        due.test("9: .. or it does not wait", EdgesOfEventsTest::interruptOfOneThatWaitsNot);
        due.test("INTERRUPTED: waits no more", EdgesOfEventsTest::interruptedWaitsNoMore);
        due.test("INTERRUPTED: all its subjects are given back", EdgesOfEventsTest::interruptedGivesBack);
        due.test("INTERRUPTED: its act is skipped, told in the log as skipped", EdgesOfEventsTest::interruptedIsTold);
        due.test("INTERRUPTED: the next one is its present act", EdgesOfEventsTest::interruptedGoesOn);
        due.test("INTERRUPTED: behind the last act it is FINISHED", EdgesOfEventsTest::interruptedAtTheLast);
        due.test("INTERRUPTED: an act that should fail is skipped, not undone", EdgesOfEventsTest::failingActSkipped);
        due.test("10: how many subjects it holds", EdgesOfEventsTest::deadHolds);
        due.test("10: NONE if it is finished", EdgesOfEventsTest::deadOfTheFinished);
        due.test("10: NONE if it is dead", EdgesOfEventsTest::deadOfTheDead);
        due.test("10: NONE if it is ended", EdgesOfEventsTest::deadOfTheEnded);
        due.test("10: IllegalArgumentException if there is none such", EdgesOfEventsTest::deadOfNoDesk);
        due.test("DEAD: does nothing any more", EdgesOfEventsTest::deadDoesNothing);
        due.test("DEAD: if it waited, it waits no more", EdgesOfEventsTest::deadWaitsNoMore);
        due.test("DEAD: what it holds it keeps", EdgesOfEventsTest::deadKeeps);
        due.test("DEAD: more than 100 behind the one at which it got the subject", EdgesOfEventsTest::freedAt101);
        due.test("DEAD: each subject by the time at which it was got", EdgesOfEventsTest::freedOneByOne);
        due.test("DEAD: the time of the last getting", EdgesOfEventsTest::freedByTheLastGetting);
        due.test("DEAD: one that was handed over was got then", EdgesOfEventsTest::gotByHandingOver);
        due.test("DEAD: .. until a time is told", EdgesOfEventsTest::freedWhenATimeIsTold);
        due.test("DEAD: FREED (given back)", EdgesOfEventsTest::freedIsGivenBack);
        due.test("11: how many subjects are FREED", EdgesOfEventsTest::howManyAreFreed);
        due.test("11: of desks that are not dead none", EdgesOfEventsTest::theLivingKeep);
        due.test("11: what is freed is freed once", EdgesOfEventsTest::freedOnce);
        due.test("11: at the latest time", EdgesOfEventsTest::freedAtTheEndOfTime);
        due.test("11: IllegalArgumentException if it is ahead of the latest one", EdgesOfEventsTest::timeGoesBack);
        due.test("11: the latest one again is not ahead of it", EdgesOfEventsTest::sameTimeAgain);
        due.test("11: .. or above 100000", EdgesOfEventsTest::timeAbove);
        due.test("11: when CLOSED", EdgesOfEventsTest::timeWhenClosed);
        due.test("12: how many desks END: none", EdgesOfEventsTest::closeEndsNone);
        due.test("12: how many desks END: eight", EdgesOfEventsTest::closeEndsAll);
        due.test("12: how many desks END: dead ones too, finished ones not", EdgesOfEventsTest::closeEndsTheDead);
        due.test("12: NONE if it was", EdgesOfEventsTest::closedAlready);
        due.test("CLOSED: by numbers", EdgesOfEventsTest::endsByNumbers);
        due.test("CLOSED: each waits no more", EdgesOfEventsTest::endedWaitNoMore);
        due.test("CLOSED: gives back also to such as end behind it", EdgesOfEventsTest::endedGiveBack);
        due.test("CLOSED: told as ended, if it held something", EdgesOfEventsTest::endedWhileHolding);
        due.test("CLOSED: .. or waited", EdgesOfEventsTest::endedWhileWaiting);
        due.test("CLOSED: not told if it was not in the midst of an act", EdgesOfEventsTest::endedBetweenActs);
        due.test("CLOSED: Nothing runs behind that", EdgesOfEventsTest::nothingRuns);
        due.test("CLOSED: nothing can be told any more", EdgesOfEventsTest::nothingCanBeTold);
        due.end();
    }

    private static void interrupted() {
        DeskTurns x = waitingFor5(1, 1, 1, 1, 1, 1, 1, 1);
        due.is("the last desk", x.interrupt(7), true);
        due.is("the first that waits", x.interrupt(1), true);
        due.is("one in the middle", x.interrupt(4), true);
        due.is("waits(5, 0)", x.waits(5, 0), 2);
        due.is("waits(5, 1)", x.waits(5, 1), 3);
        due.is("waits(5, 2)", x.waits(5, 2), 5);
        due.is("waits(5, 3)", x.waits(5, 3), 6);
        due.is("waits(5, 4)", x.waits(5, 4), NONE);
    }

    private static void interruptOfNoDesk() {
        DeskTurns x = waitingFor5(1, 1);
        due.is("interrupt(2)", x.interrupt(2), false);
        for (int no : outside(0, 7)) {
            due.is("interrupt(" + no + ")", x.interrupt(no), false);
        }
        due.is("none was interrupted", x.count(1), 0);
    }

    private static void interruptOfOneThatWaitsNot() {
        DeskTurns x = waitingFor5(1, 2, 1, 1, 2);
        x.desk(1, NONE);
        due.is("one that holds", x.interrupt(0), false);
        due.is("a new one", x.interrupt(5), false);
        x.interrupt(1);
        due.is("one that was interrupted", x.interrupt(1), false);
        x.dead(2);
        due.is("a dead one that waited", x.interrupt(2), false);
        go(x, 0);
        due.is("a finished one", x.interrupt(0), false);
        due.is("one that waited", x.interrupt(3), false);
        x.close();
        due.is("an ended one that waited", x.interrupt(4), false);
    }

    private static void interruptedWaitsNoMore() {
        DeskTurns x = waitingFor5(1, 2);
        x.interrupt(1);
        due.is("look(1, 2)", x.look(1, 2), 0);
        due.is("look(1, 4)", x.look(1, 4), NONE);
        due.is("waits(5, 0)", x.waits(5, 0), NONE);
        go(x, 0);
        due.is("it gets not what it waited for", x.holder(5), NONE);
    }

    private static void interruptedGivesBack() {
        DeskTurns x = withDesks(1, 2, 1, 1);
        x.needs(0, 0, 15);
        needsAll(x, 1, 0, 0, 1, 2, 15);
        x.needs(2, 0, 0);
        x.needs(3, 0, 2);
        go(x, 0, 1, 1, 1, 1, 2, 3);
        due.is("it holds three and waits", x.look(1, 3), 7);
        due.is("interrupt(1)", x.interrupt(1), true);
        due.is("look(1, 3)", x.look(1, 3), 0);
        due.is("holder(0)", x.holder(0), 2);
        due.is("holder(1)", x.holder(1), NONE);
        due.is("holder(2)", x.holder(2), 3);
        due.is("holder(15)", x.holder(15), 0);
    }

    private static void interruptedIsTold() {
        DeskTurns x = waitingFor5(1, 3);
        x.needs(1, 1, 5);
        x.interrupt(1);
        due.is("log(0)", x.log(0), 3100);
        go(x, 1);
        x.interrupt(1);
        due.is("log(1)", x.log(1), 3101);
        due.is("count(1)", x.count(1), 2);
    }

    private static void interruptedGoesOn() {
        DeskTurns x = waitingFor5(1, 3);
        x.interrupt(1);
        due.is("look(1, 0)", x.look(1, 0), 1);
        due.is("look(1, 1)", x.look(1, 1), 0);
        due.is("the others are done", go(x, 1, 1, 1), 2);
        due.is("log(1)", x.log(1), 1101);
        due.is("log(2)", x.log(2), 1102);
    }

    private static void interruptedAtTheLast() {
        DeskTurns x = waitingFor5(1, 1);
        x.interrupt(1);
        due.is("look(1, 0)", x.look(1, 0), 1);
        due.is("look(1, 1)", x.look(1, 1), 0);
        due.is("look(1, 2)", x.look(1, 2), 2);
        due.is("a turn of it", go(x, 1), 0);
        due.is("is passed over", x.count(3), 1);
        due.is("dead(1)", x.dead(1), NONE);
        due.is("close()", x.close(), 1);
    }

    private static void failingActSkipped() {
        DeskTurns x = withDesks(1);
        x.desk(2, 0);
        x.needs(0, 0, 5);
        x.needs(1, 0, 5);
        go(x, 0, 1);
        x.interrupt(1);
        due.is("log(0)", x.log(0), 3100);
        due.is("the next act fails not", go(x, 1), 1);
        due.is("log(1)", x.log(1), 1101);
    }

    private static void deadHolds() {
        DeskTurns x = withDesks(1, 1, 1, 1);
        needsAll(x, 0, 0, 0, 1, 2, 3, 4, 5, 6, 7, 8, 9, 10, 11, 12, 13, 14, 15);
        due.is("nothing", x.dead(3), 0);
        goOften(x, 0, 16);
        due.is("all sixteen", x.dead(0), 16);
        DeskTurns y = waitingFor5(1, 1);
        due.is("nothing, it waited", y.dead(1), 0);
        due.is("one", y.dead(0), 1);
        DeskTurns z = withDesks(1, 1);
        z.needs(0, 0, 9);
        needsAll(z, 1, 0, 3, 4, 9);
        go(z, 0, 1, 1, 1);
        due.is("two, it waited for a third", z.dead(1), 2);
    }

    private static void deadOfTheFinished() {
        DeskTurns x = withDesks(1);
        go(x, 0);
        due.is("dead(0)", x.dead(0), NONE);
        due.is("look(0, 2)", x.look(0, 2), 2);
        x.close();
        due.is("when closed", x.dead(0), NONE);
    }

    private static void deadOfTheDead() {
        DeskTurns x = waitingFor5(1);
        x.dead(0);
        due.is("while it holds", x.dead(0), NONE);
        x.tick(101);
        due.is("when it holds nothing", x.dead(0), NONE);
    }

    private static void deadOfTheEnded() {
        DeskTurns x = waitingFor5(1, 1);
        x.dead(1);
        x.close();
        due.is("dead(0)", x.dead(0), NONE);
        due.is("dead(1)", x.dead(1), NONE);
        due.is("look(0, 2)", x.look(0, 2), 4);
    }

    private static void deadOfNoDesk() {
        DeskTurns x = withDesks(1, 1);
        due.illegalArgument("dead(2)", () -> x.dead(2));
        for (int no : outside(0, 7)) {
            due.illegalArgument("dead(" + no + ")", () -> x.dead(no));
        }
        x.close();
        due.illegalArgument("dead(2) when closed", () -> x.dead(2));
        due.illegalArgument("dead(0) without desks", () -> new DeskTurns().dead(0));
    }

    private static void deadDoesNothing() {
        DeskTurns x = waitingFor5(2);
        x.turn(0);
        x.dead(0);
        due.is("a turn that was told before", x.run(), 0);
        due.is("count(1)", x.count(1), 0);
        due.is("look(0, 0)", x.look(0, 0), 0);
        due.is("holder(5)", x.holder(5), 0);
    }

    private static void deadWaitsNoMore() {
        DeskTurns x = waitingFor5(1, 1, 1);
        x.dead(1);
        due.is("look(1, 4)", x.look(1, 4), NONE);
        due.is("waits(5, 0)", x.waits(5, 0), 2);
        due.is("waits(5, 1)", x.waits(5, 1), NONE);
        go(x, 0);
        due.is("the one behind it has the subject", x.holder(5), 2);
        due.is("nothing is told of the dead", x.count(1), 1);
    }

    private static void deadKeeps() {
        DeskTurns x = waitingFor5(1, 1);
        x.dead(0);
        due.is("holder(5)", x.holder(5), 0);
        due.is("look(0, 3)", x.look(0, 3), 32);
        due.is("who waits for it waits still", x.look(1, 4), 5);
        DeskTurns y = withDesks(1, 1);
        y.needs(0, 0, 9);
        needsAll(y, 1, 0, 3, 9);
        go(y, 0, 1, 1);
        y.dead(1);
        due.is("one that waited keeps what it holds", y.holder(3), 1);
    }

    private static void freedAt101() {
        for (int got : new int[] {0, 1, 7777}) {
            DeskTurns x = withDesks(1);
            x.needs(0, 0, 0);
            x.tick(got);
            go(x, 0);
            x.dead(0);
            due.is("99 behind", x.tick(got + 99), 0);
            due.is("100 behind", x.tick(got + 100), 0);
            due.is("held", x.holder(0), 0);
            due.is("101 behind", x.tick(got + 101), 1);
            due.is("free", x.holder(0), NONE);
        }
    }

    private static void freedOneByOne() {
        DeskTurns x = withDesks(1);
        needsAll(x, 0, 0, 0, 7, 15);
        go(x, 0);
        x.tick(10);
        go(x, 0);
        x.tick(20);
        go(x, 0);
        x.tick(90);
        x.dead(0);
        due.is("tick(101)", x.tick(101), 1);
        due.is("look(0, 3)", x.look(0, 3), 1 << 7 | 1 << 15);
        due.is("tick(110)", x.tick(110), 0);
        due.is("tick(111)", x.tick(111), 1);
        due.is("tick(120)", x.tick(120), 0);
        due.is("look(0, 3) then", x.look(0, 3), 1 << 15);
        due.is("tick(121)", x.tick(121), 1);
    }

    private static void freedByTheLastGetting() {
        DeskTurns x = withDesks(2);
        x.needs(0, 0, 6);
        x.needs(0, 1, 6);
        x.tick(10);
        go(x, 0, 0);
        x.tick(50);
        go(x, 0);
        x.dead(0);
        due.is("tick(150)", x.tick(150), 0);
        due.is("tick(151)", x.tick(151), 1);
    }

    private static void gotByHandingOver() {
        DeskTurns x = waitingFor5(1, 1);
        x.tick(60);
        go(x, 0);
        x.dead(1);
        due.is("done: tick(160)", x.tick(160), 0);
        due.is("done: tick(161)", x.tick(161), 1);
        DeskTurns y = waitingFor5(1, 1, 1);
        y.dead(0);
        y.tick(500);
        y.dead(1);
        due.is("freed: tick(600)", y.tick(600), 0);
        due.is("freed: holder(5)", y.holder(5), 1);
        due.is("freed: tick(601)", y.tick(601), 1);
        due.is("freed: holder(5) then", y.holder(5), 2);
    }

    private static void freedWhenATimeIsTold() {
        DeskTurns x = waitingFor5(1);
        x.tick(1000);
        due.is("dead(0)", x.dead(0), 1);
        due.is("kept, though the time is past", x.holder(5), 0);
        due.is("freed by the next time told, the same one", x.tick(1000), 1);
    }

    private static void freedIsGivenBack() {
        DeskTurns x = waitingFor5(1, 1, 1);
        x.dead(0);
        x.tick(101);
        due.is("holder(5)", x.holder(5), 1);
        due.is("look(1, 2)", x.look(1, 2), 0);
        due.is("look(1, 3)", x.look(1, 3), 32);
        due.is("look(0, 3)", x.look(0, 3), 0);
        due.is("waits(5, 0)", x.waits(5, 0), 2);
        due.is("nothing is told in the log", x.count(1), 0);
        due.is("the act is done", go(x, 1), 1);
    }

    private static void howManyAreFreed() {
        DeskTurns x = withDesks(1, 1, 1);
        needsAll(x, 0, 0, 0, 1, 2, 3, 4, 5, 6, 7, 8, 9, 10, 11, 12, 13, 14);
        x.needs(1, 0, 15);
        x.needs(2, 0, 3);
        goOften(x, 0, 15);
        go(x, 1, 2);
        x.dead(0);
        x.dead(1);
        due.is("of two desks, one handed over", x.tick(101), 16);
        due.is("count(6)", x.count(6), 1);
        due.is("of none", x.tick(202), 0);
    }

    private static void theLivingKeep() {
        DeskTurns x = waitingFor5(1, 1);
        due.is("tick(100000)", x.tick(100000), 0);
        due.is("holder(5)", x.holder(5), 0);
        due.is("waits(5, 0)", x.waits(5, 0), 1);
    }

    private static void freedOnce() {
        DeskTurns x = waitingFor5(1);
        x.dead(0);
        due.is("tick(101)", x.tick(101), 1);
        due.is("tick(101) again", x.tick(101), 0);
        due.is("tick(300)", x.tick(300), 0);
    }

    private static void freedAtTheEndOfTime() {
        for (int got : new int[] {99899, 99900}) {
            DeskTurns x = withDesks(1);
            x.needs(0, 0, 15);
            x.tick(got);
            go(x, 0);
            x.dead(0);
            due.is("got at " + got, x.tick(100000), got == 99899 ? 1 : 0);
        }
    }

    private static void timeGoesBack() {
        DeskTurns x = new DeskTurns();
        for (int no : outside(0, 100000)) {
            due.illegalArgument("tick(" + no + ") at 0", () -> x.tick(no));
        }
        x.tick(500);
        for (int no : new int[] {499, 1, 0, -1, Integer.MIN_VALUE}) {
            due.illegalArgument("tick(" + no + ") at 500", () -> x.tick(no));
        }
        x.tick(100000);
        due.illegalArgument("tick(99999)", () -> x.tick(99999));
        due.is("count(4)", x.count(4), 100000);
    }

    private static void sameTimeAgain() {
        DeskTurns x = new DeskTurns();
        for (int t : new int[] {0, 0, 1, 1, 100000, 100000}) {
            due.is("tick(" + t + ")", x.tick(t), 0);
        }
    }

    private static void timeAbove() {
        DeskTurns x = new DeskTurns();
        due.illegalArgument("tick(100001)", () -> x.tick(100001));
        due.illegalArgument("tick(the greatest)", () -> x.tick(Integer.MAX_VALUE));
        due.is("count(4)", x.count(4), 0);
    }

    private static void timeWhenClosed() {
        DeskTurns x = waitingFor5(1);
        x.dead(0);
        x.close();
        due.is("nothing is held, nothing is freed", x.tick(101), 0);
        due.is("count(4)", x.count(4), 101);
        due.illegalArgument("tick(100)", () -> x.tick(100));
        due.illegalArgument("tick(100001)", () -> x.tick(100001));
    }

    private static void closeEndsNone() {
        due.is("no desks", new DeskTurns().close(), 0);
        DeskTurns x = withDesks(1, 1);
        go(x, 0, 1);
        due.is("all finished", x.close(), 0);
        due.is("count(5)", x.count(5), 1);
        due.is("look(0, 2)", x.look(0, 2), 2);
        due.is("count(1)", x.count(1), 2);
    }

    private static void closeEndsAll() {
        DeskTurns x = waitingFor5(1, 1, 1, 1, 1, 1, 1, 1);
        due.is("close()", x.close(), 8);
        for (int d = 0; d < 8; d++) {
            due.is("look(" + d + ", 2)", x.look(d, 2), 4);
            due.is("log(" + d + ")", x.log(d), 4000 + 100 * d);
        }
    }

    private static void closeEndsTheDead() {
        DeskTurns x = withDesks(1, 1, 1);
        go(x, 1);
        x.dead(2);
        due.is("close()", x.close(), 2);
        due.is("look(1, 2)", x.look(1, 2), 2);
        due.is("look(2, 2)", x.look(2, 2), 4);
    }

    private static void closedAlready() {
        DeskTurns x = withDesks(1);
        due.is("the first time", x.close(), 1);
        due.is("the second time", x.close(), NONE);
        due.is("the third time", x.close(), NONE);
        DeskTurns y = new DeskTurns();
        y.close();
        due.is("without desks", y.close(), NONE);
    }

    private static void endsByNumbers() {
        DeskTurns x = withDesks(2, 2, 2);
        for (int d = 0; d < 3; d++) {
            x.needs(d, 0, d);
        }
        go(x, 2, 0, 1);
        x.close();
        due.is("log(0)", x.log(0), 4000);
        due.is("log(1)", x.log(1), 4100);
        due.is("log(2)", x.log(2), 4200);
    }

    private static void endedWaitNoMore() {
        DeskTurns x = withDesks(1, 1, 1);
        for (int d = 0; d < 3; d++) {
            x.needs(d, 0, 5);
        }
        go(x, 1, 0, 2);
        x.close();
        for (int d = 0; d < 3; d++) {
            due.is("look(" + d + ", 4)", x.look(d, 4), NONE);
        }
        due.is("waits(5, 0)", x.waits(5, 0), NONE);
    }

    private static void endedGiveBack() {
        DeskTurns x = withDesks(1, 1, 1);
        for (int d = 0; d < 3; d++) {
            x.needs(d, 0, 5);
        }
        go(x, 1, 2, 0);
        due.is("close()", x.close(), 3);
        due.is("each is told once", x.count(1), 3);
        due.is("holder(5)", x.holder(5), NONE);
        due.is("count(6)", x.count(6), 0);
        for (int d = 0; d < 3; d++) {
            due.is("look(" + d + ", 3)", x.look(d, 3), 0);
        }
    }

    private static void endedWhileHolding() {
        DeskTurns x = withDesks(3, 1);
        needsAll(x, 0, 2, 0, 1);
        go(x, 0, 0, 0);
        due.is("it holds one of two", x.look(0, 3), 1);
        x.close();
        due.is("log(2)", x.log(2), 4002);
        due.is("count(1)", x.count(1), 3);
        DeskTurns y = waitingFor5(1);
        y.dead(0);
        y.close();
        due.is("dead, it holds", y.log(0), 4000);
    }

    private static void endedWhileWaiting() {
        DeskTurns x = withDesks(1, 1);
        x.needs(0, 0, 5);
        x.needs(1, 0, 5);
        go(x, 1, 0);
        due.is("desk 0 waits and holds nothing", x.look(0, 3), 0);
        x.close();
        due.is("log(0)", x.log(0), 4000);
        due.is("log(1)", x.log(1), 4100);
    }

    private static void endedBetweenActs() {
        DeskTurns x = new DeskTurns();
        x.desk(1, NONE);
        x.desk(2, NONE);
        x.desk(1, 0);
        x.desk(1, NONE);
        x.needs(3, 0, 5);
        go(x, 1, 2, 3);
        x.dead(3);
        x.tick(101);
        due.is("new, done, undone, dead and freed: all end", x.close(), 4);
        due.is("none of them is told", x.count(1), 2);
        for (int d = 0; d < 4; d++) {
            due.is("look(" + d + ", 2)", x.look(d, 2), 4);
        }
    }

    private static void nothingRuns() {
        DeskTurns x = withDesks(2);
        x.turn(0);
        x.close();
        due.illegalState("run()", x::run);
        due.is("look(0, 1)", x.look(0, 1), 0);
        due.is("count(1)", x.count(1), 0);
        due.is("count(3)", x.count(3), 0);
    }

    private static void nothingCanBeTold() {
        DeskTurns x = withDesks(2);
        x.close();
        due.illegalState("desk(1, NONE)", () -> x.desk(1, NONE));
        due.illegalState("turn(0)", () -> x.turn(0));
        due.is("needs(0, 1, 0)", x.needs(0, 1, 0), false);
        due.is("interrupt(0)", x.interrupt(0), false);
        due.is("dead(0)", x.dead(0), NONE);
        due.is("count(0)", x.count(0), 1);
        due.is("count(2)", x.count(2), 0);
    }
}
