/** One test for each sentence of promises 6, 7, 8, 13 and 14 (log, holder, waits, look, count) that names a boundary. */
public final class EdgesOfReadingTest extends Scenes {
    private static final Due due = new Due();

    public static void main(String[] args) {
        due.test("6: Entry i of the log", EdgesOfReadingTest::firstAndLastEntry);
        due.test("6: NONE without: an empty log", EdgesOfReadingTest::emptyLog);
        due.test("6: NONE without: beside the entries", EdgesOfReadingTest::besideTheLog);
        due.test("7: Who holds a subject: the first and the last one", EdgesOfReadingTest::firstAndLastHolder);
        due.test("7: NONE if nobody does", EdgesOfReadingTest::nobodyHolds);
        due.test("7: IllegalArgumentException if there is no such subject", EdgesOfReadingTest::holderOfNoSubject);
        due.test("8: The i-th that waits, the first at 0", EdgesOfReadingTest::firstAndLastThatWaits);
        due.test("8: NONE without: nobody waits", EdgesOfReadingTest::nobodyWaits);
        due.test("8: NONE without: beside those that wait", EdgesOfReadingTest::besideTheWaiting);
        due.test("8: IllegalArgumentException if there is no such subject", EdgesOfReadingTest::waitsForNoSubject);
        due.test("13: what 0: its present act", EdgesOfReadingTest::presentAct);
        due.test("13: (as many as it has, if it is finished)", EdgesOfReadingTest::presentActOfTheFinished);
        due.test("13: what 1: acts done", EdgesOfReadingTest::actsDone);
        due.test("13: what 2: 0 it may go on", EdgesOfReadingTest::mayGoOn);
        due.test("13: what 2: 1 it WAITS", () -> due.is("look(1, 2)", waitingFor5(1, 1).look(1, 2), 1));
        due.test("13: what 2: 2 it is FINISHED", EdgesOfReadingTest::isFinished);
        due.test("13: what 2: 3 DEAD", EdgesOfReadingTest::isDead);
        due.test("13: what 2: 4 ENDED", EdgesOfReadingTest::hasEnded);
        due.test("13: what 3: subjects that it holds, as bits", EdgesOfReadingTest::heldAsBits);
        due.test("13: what 4: the subject for which it waits", EdgesOfReadingTest::waitsForWhich);
        due.test("13: what 4: NONE without", EdgesOfReadingTest::waitsForNone);
        due.test("13: IndexOutOfBoundsException if there is none such", EdgesOfReadingTest::lookAtNoDesk);
        due.test("13: .. or no such what", EdgesOfReadingTest::lookAtNoWhat);
        due.test("14: what 0: desks", EdgesOfReadingTest::countOfDesks);
        due.test("14: what 1: entries of the log", EdgesOfReadingTest::countOfEntries);
        due.test("14: what 2: turns that were told", EdgesOfReadingTest::countOfTurns);
        due.test("14: what 3: turns passed over so far", EdgesOfReadingTest::countOfPassedOver);
        due.test("14: what 4: TIME", EdgesOfReadingTest::countOfTime);
        due.test("14: what 5: 1 if it is CLOSED", EdgesOfReadingTest::countOfClosed);
        due.test("14: what 6: subjects that are held", EdgesOfReadingTest::countOfHeld);
        due.test("14: NONE for another what", EdgesOfReadingTest::countOfNoWhat);
        due.end();
    }

    private static void firstAndLastEntry() {
        DeskTurns x = withDesks(1, 1, 1);
        go(x, 2, 0, 1);
        due.is("log(0)", x.log(0), 1200);
        due.is("log(1)", x.log(1), 1000);
        due.is("log(2)", x.log(2), 1100);
        due.is("log(0) once more", x.log(0), 1200);
    }

    private static void emptyLog() {
        DeskTurns x = waitingFor5(1, 1);
        due.is("log(0)", x.log(0), NONE);
        for (int no : outside(0, 399)) {
            due.is("log(" + no + ")", x.log(no), NONE);
        }
    }

    private static void besideTheLog() {
        DeskTurns x = withDesks(12);
        for (int n = 1; n <= 12; n++) {
            go(x, 0);
            due.is("the last of " + n, x.log(n - 1), 1000 + n - 1);
            due.is("behind the last of " + n, x.log(n), NONE);
            due.is("ahead of the first", x.log(-1), NONE);
        }
        for (int no : outside(0, 399)) {
            due.is("log(" + no + ")", x.log(no), NONE);
        }
        due.is("log(399)", x.log(399), NONE);
    }

    private static void firstAndLastHolder() {
        DeskTurns x = withDesks(1, 1, 1, 1, 1, 1, 1, 1);
        x.needs(0, 0, 15);
        x.needs(7, 0, 0);
        go(x, 0, 7);
        due.is("holder(0)", x.holder(0), 7);
        due.is("holder(15)", x.holder(15), 0);
        for (int s = 1; s < 15; s++) {
            due.is("holder(" + s + ")", x.holder(s), NONE);
        }
    }

    private static void nobodyHolds() {
        DeskTurns x = withDesks(2);
        x.needs(0, 0, 5);
        due.is("needed alone", x.holder(5), NONE);
        x.turn(0);
        due.is("told alone", x.holder(5), NONE);
        x.run();
        due.is("asked for", x.holder(5), 0);
        go(x, 0);
        due.is("given back", x.holder(5), NONE);
    }

    private static void holderOfNoSubject() {
        DeskTurns x = waitingFor5(1);
        for (int no : outside(0, 15)) {
            due.illegalArgument("holder(" + no + ")", () -> x.holder(no));
        }
        x.close();
        due.illegalArgument("holder(16) when closed", () -> x.holder(16));
    }

    private static void firstAndLastThatWaits() {
        DeskTurns x = waitingFor5(1, 1, 1, 1, 1, 1, 1, 1);
        for (int i = 0; i < 7; i++) {
            due.is("waits(5, " + i + ")", x.waits(5, i), i + 1);
        }
        DeskTurns y = withDesks(1, 1, 1, 1);
        needsAll(y, 0, 0, 0, 15);
        y.needs(1, 0, 15);
        y.needs(2, 0, 0);
        y.needs(3, 0, 0);
        go(y, 0, 0, 3, 1, 2);
        due.is("waits(0, 0)", y.waits(0, 0), 3);
        due.is("waits(0, 1)", y.waits(0, 1), 2);
        due.is("waits(15, 0)", y.waits(15, 0), 1);
    }

    private static void nobodyWaits() {
        DeskTurns x = waitingFor5(1);
        due.is("for one that is held", x.waits(5, 0), NONE);
        due.is("for one that is free", x.waits(4, 0), NONE);
        due.is("for the first", x.waits(0, 0), NONE);
        due.is("for the last", x.waits(15, 0), NONE);
    }

    private static void besideTheWaiting() {
        DeskTurns x = waitingFor5(1, 1, 1, 1, 1, 1, 1, 1);
        for (int no : outside(0, 6)) {
            due.is("waits(5, " + no + ")", x.waits(5, no), NONE);
        }
        DeskTurns y = waitingFor5(1, 1, 1);
        due.is("waits(5, 1)", y.waits(5, 1), 2);
        due.is("waits(5, 2)", y.waits(5, 2), NONE);
        y.dead(1);
        due.is("waits(5, 1) then", y.waits(5, 1), NONE);
    }

    private static void waitsForNoSubject() {
        DeskTurns x = waitingFor5(1, 1);
        for (int no : outside(0, 15)) {
            due.illegalArgument("waits(" + no + ", 0)", () -> x.waits(no, 0));
            due.illegalArgument("waits(" + no + ", -1)", () -> x.waits(no, -1));
        }
        due.is("waits(0, 0)", x.waits(0, 0), NONE);
        due.is("waits(15, 0)", x.waits(15, 0), NONE);
    }

    private static void presentAct() {
        DeskTurns x = new DeskTurns();
        x.desk(3, 1);
        due.is("at first", x.look(0, 0), 0);
        go(x, 0);
        due.is("done one", x.look(0, 0), 1);
        go(x, 0);
        due.is("undone one", x.look(0, 0), 1);
        go(x, 0);
        due.is("done it", x.look(0, 0), 2);
        x.dead(0);
        due.is("dead", x.look(0, 0), 2);
        x.close();
        due.is("ended", x.look(0, 0), 2);
    }

    private static void presentActOfTheFinished() {
        DeskTurns x = withDesks(1, 12, 1);
        goOften(x, 1, 12);
        due.is("twelve acts", x.look(1, 0), 12);
        x.needs(0, 0, 5);
        x.needs(2, 0, 5);
        go(x, 0, 2);
        x.interrupt(2);
        due.is("the last one skipped", x.look(2, 0), 1);
        go(x, 0, 0);
        due.is("one act", x.look(0, 0), 1);
        x.close();
        due.is("when closed", x.look(1, 0), 12);
    }

    private static void actsDone() {
        DeskTurns x = new DeskTurns();
        x.desk(1, NONE);
        x.desk(3, 1);
        x.needs(0, 0, 5);
        x.needs(1, 0, 5);
        go(x, 0, 1);
        due.is("at first", x.look(1, 1), 0);
        x.interrupt(1);
        due.is("skipped", x.look(1, 1), 0);
        go(x, 1);
        due.is("undone", x.look(1, 1), 0);
        go(x, 1);
        due.is("done", x.look(1, 1), 1);
        go(x, 1, 1);
        due.is("done both", x.look(1, 1), 2);
        due.is("of three", x.look(1, 0), 3);
    }

    private static void mayGoOn() {
        DeskTurns x = waitingFor5(2, 1);
        due.is("one that holds", x.look(0, 2), 0);
        go(x, 0);
        due.is("one that holds nothing", x.look(0, 2), 0);
        due.is("one that waited", x.look(1, 2), 0);
        due.is("a new one", withDesks(1).look(0, 2), 0);
    }

    private static void isFinished() {
        DeskTurns x = waitingFor5(1, 1);
        x.interrupt(1);
        due.is("by skipping", x.look(1, 2), 2);
        go(x, 0);
        due.is("by doing", x.look(0, 2), 2);
        x.dead(0);
        x.close();
        due.is("whatever comes", x.look(0, 2), 2);
    }

    private static void isDead() {
        DeskTurns x = waitingFor5(1, 1, 1);
        x.dead(0);
        x.dead(1);
        due.is("one that holds", x.look(0, 2), 3);
        due.is("one that waited", x.look(1, 2), 3);
        x.tick(101);
        due.is("one whose subjects were freed", x.look(0, 2), 3);
    }

    private static void hasEnded() {
        DeskTurns x = waitingFor5(1, 1, 1, 1);
        x.desk(1, NONE);
        x.dead(3);
        x.close();
        for (int d = 0; d < 5; d++) {
            due.is("look(" + d + ", 2)", x.look(d, 2), 4);
        }
    }

    private static void heldAsBits() {
        DeskTurns x = withDesks(1, 1);
        needsAll(x, 0, 0, 0, 1, 2, 3, 4, 5, 6, 7, 8, 9, 10, 11, 12, 13, 14);
        x.needs(1, 0, 15);
        due.is("nothing", x.look(0, 3), 0);
        goOften(x, 0, 15);
        go(x, 1);
        due.is("the first fifteen", x.look(0, 3), 0x7fff);
        due.is("the last", x.look(1, 3), 0x8000);
        x.dead(1);
        due.is("the last, dead", x.look(1, 3), 0x8000);
        x.close();
        due.is("when closed", x.look(0, 3), 0);
    }

    private static void waitsForWhich() {
        for (int s : new int[] {0, 15}) {
            DeskTurns x = withDesks(1, 1);
            x.needs(0, 0, s);
            x.needs(1, 0, s);
            go(x, 0, 1);
            due.is("look(1, 4)", x.look(1, 4), s);
        }
    }

    private static void waitsForNone() {
        DeskTurns x = waitingFor5(1, 2, 2, 2);
        due.is("a new one", withDesks(1).look(0, 4), NONE);
        due.is("one that holds", x.look(0, 4), NONE);
        x.interrupt(1);
        due.is("interrupted", x.look(1, 4), NONE);
        x.dead(2);
        due.is("dead", x.look(2, 4), NONE);
        x.close();
        due.is("ended", x.look(3, 4), NONE);
    }

    private static void lookAtNoDesk() {
        DeskTurns x = withDesks(1, 1);
        due.outOfBounds("look(2, 0)", () -> x.look(2, 0));
        for (int no : outside(0, 7)) {
            due.outOfBounds("look(" + no + ", 0)", () -> x.look(no, 0));
            due.outOfBounds("look(" + no + ", 5)", () -> x.look(no, 5));
        }
        due.is("look(1, 0)", x.look(1, 0), 0);
    }

    private static void lookAtNoWhat() {
        DeskTurns x = withDesks(1);
        for (int no : outside(0, 4)) {
            due.outOfBounds("look(0, " + no + ")", () -> x.look(0, no));
        }
        x.close();
        due.outOfBounds("look(0, 5) when closed", () -> x.look(0, 5));
    }

    private static void countOfDesks() {
        DeskTurns x = new DeskTurns();
        for (int d = 0; d < 8; d++) {
            due.is("count(0)", x.count(0), d);
            x.desk(1, NONE);
        }
        go(x, 0);
        x.dead(1);
        due.is("finished and dead ones too", x.count(0), 8);
        x.close();
        due.is("ended ones too", x.count(0), 8);
    }

    private static void countOfEntries() {
        DeskTurns x = new DeskTurns();
        x.desk(2, 0);
        x.desk(1, NONE);
        x.needs(0, 1, 5);
        x.needs(1, 0, 5);
        due.is("at first", x.count(1), 0);
        go(x, 0);
        due.is("undone", x.count(1), 1);
        go(x, 0);
        due.is("done", x.count(1), 2);
        go(x, 0, 1);
        due.is("askings are not told", x.count(1), 2);
        x.interrupt(1);
        due.is("skipped", x.count(1), 3);
        x.close();
        due.is("ended", x.count(1), 4);
    }

    private static void countOfTurns() {
        DeskTurns x = withDesks(1);
        x.turn(0);
        due.is("told", x.count(2), 1);
        x.run();
        due.is("run", x.count(2), 1);
        x.turn(0);
        due.is("told in all", x.count(2), 2);
        x.close();
        due.is("when closed", x.count(2), 2);
    }

    private static void countOfPassedOver() {
        DeskTurns x = waitingFor5(1, 1);
        x.turn(1);
        due.is("told, not run", x.count(3), 0);
        x.run();
        due.is("run", x.count(3), 1);
        go(x, 0, 0, 1, 1);
        due.is("so far", x.count(3), 3);
    }

    private static void countOfTime() {
        DeskTurns x = new DeskTurns();
        for (int t : new int[] {0, 1, 1, 99999, 100000}) {
            x.tick(t);
            due.is("count(4)", x.count(4), t);
        }
    }

    private static void countOfClosed() {
        DeskTurns x = withDesks(1);
        go(x, 0);
        due.is("all finished is not closed", x.count(5), 0);
        x.close();
        due.is("closed", x.count(5), 1);
        x.close();
        due.is("closed again", x.count(5), 1);
    }

    private static void countOfHeld() {
        DeskTurns x = withDesks(1, 1, 1);
        needsAll(x, 0, 0, 0, 7);
        needsAll(x, 1, 0, 15);
        needsAll(x, 2, 0, 7);
        due.is("none", x.count(6), 0);
        go(x, 0, 0, 1, 2);
        due.is("of two desks, one waits", x.count(6), 3);
        x.dead(0);
        due.is("by a dead one too", x.count(6), 3);
        x.tick(101);
        due.is("one was freed for good", x.count(6), 2);
        x.close();
        due.is("when closed", x.count(6), 0);
    }

    private static void countOfNoWhat() {
        DeskTurns x = waitingFor5(1, 1);
        for (int no : outside(0, 6)) {
            due.is("count(" + no + ")", x.count(no), NONE);
        }
        x.close();
        due.is("count(7) when closed", x.count(7), NONE);
    }
}
