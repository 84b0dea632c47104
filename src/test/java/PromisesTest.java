/** For each promise of the document: ordinary inputs, the edges that it names, and wrong inputs. */
public final class PromisesTest extends Scenes {
    private static final int LEAST = Integer.MIN_VALUE;
    private static final int MOST = Integer.MAX_VALUE;

    private static final Due due = new Due();

    public static void main(String[] args) {
        newObject();
        deskNumbers();
        deskRefusals();
        needsAnswers();
        needsOfActsBegun();
        needsOfADeadDesk();
        turnsAreTold();
        turnRefusals();
        turnsRunOnce();
        leastSubjectIsAskedFirst();
        failingAct();
        passedOver();
        logEntries();
        longestLog();
        holders();
        waitsInOrderOfAsking();
        handedOverByNumbers();
        interruptedWaits();
        interruptOfTheLastAct();
        deadDesks();
        deadWhileWaiting();
        freedByTime();
        freedToOneThatWaits();
        timeOfTheLastGetting();
        tickRefusals();
        closing();
        closingHandsOver();
        closedTellsNothing();
        looks();
        lookRefusals();
        counts();
        due.end();
    }

    private static void newObject() {
        DeskTurns x = new DeskTurns();
        for (int what = 0; what <= 6; what++) {
            due.is("P1 count(" + what + ")", x.count(what), 0);
        }
        for (int s = 0; s < 16; s++) {
            due.is("P1 holder(" + s + ")", x.holder(s), NONE);
            due.is("P1 waits(" + s + ", 0)", x.waits(s, 0), NONE);
        }
        due.is("P1 log(0)", x.log(0), NONE);
        due.is("P1 run()", x.run(), 0);
        due.is("P1 tick(0)", x.tick(0), 0);
        DeskTurns other = new DeskTurns();
        other.desk(1, NONE);
        due.is("P1 objects share nothing", x.count(0), 0);
        due.is("P1 close() without desks", x.close(), 0);
    }

    private static void deskNumbers() {
        DeskTurns x = new DeskTurns();
        for (int n = 0; n < 8; n++) {
            due.is("P2 desk " + n, x.desk(n == 0 ? 1 : 12, n == 0 ? 0 : n + 4), n);
        }
        due.illegalState("P2 ninth desk", () -> x.desk(1, NONE));
        due.illegalArgument("P2 ninth desk with wrong acts", () -> x.desk(0, NONE));
        due.illegalArgument("P2 ninth desk with wrong fail", () -> x.desk(1, 1));
        due.is("P2 count(0)", x.count(0), 8);
        due.is("P2 acts of desk 0 done", go(x, 0, 0), 1);
        due.is("P2 desk 0 finished", x.look(0, 2), 2);
    }

    private static void deskRefusals() {
        DeskTurns x = new DeskTurns();
        for (int acts : new int[] {0, -1, 13, LEAST, MOST}) {
            due.illegalArgument("P2 desk(" + acts + ", NONE)", () -> x.desk(acts, NONE));
        }
        for (int fails : new int[] {-2, 12, 13, LEAST, MOST}) {
            due.illegalArgument("P2 desk(12, " + fails + ")", () -> x.desk(12, fails));
        }
        due.is("P2 count(0)", x.count(0), 0);
        due.is("P2 desk(12, 11)", x.desk(12, 11), 0);
        x.close();
        due.illegalState("P2 desk when closed", () -> x.desk(1, NONE));
        due.illegalArgument("P2 wrong desk when closed", () -> x.desk(0, NONE));
        due.is("P2 count(0) when closed", x.count(0), 1);
    }

    private static void needsAnswers() {
        DeskTurns x = withDesks(2, 1);
        due.is("P3 needs(0, 0, 0)", x.needs(0, 0, 0), true);
        due.is("P3 needs(0, 0, 15)", x.needs(0, 0, 15), true);
        due.is("P3 needs(0, 1, 15)", x.needs(0, 1, 15), true);
        due.is("P3 needs(1, 0, 15)", x.needs(1, 0, 15), true);
        due.is("P3 needs(0, 0, 0) again", x.needs(0, 0, 0), false);
        for (int no : new int[] {-1, LEAST, MOST}) {
            due.is("P3 needs(" + no + ", 0, 0)", x.needs(no, 0, 0), false);
            due.is("P3 needs(0, " + no + ", 0)", x.needs(0, no, 0), false);
            due.is("P3 needs(0, 0, " + no + ")", x.needs(0, 0, no), false);
        }
        due.is("P3 needs(2, 0, 0)", x.needs(2, 0, 0), false);
        due.is("P3 needs(0, 2, 0)", x.needs(0, 2, 0), false);
        due.is("P3 needs(1, 1, 0)", x.needs(1, 1, 0), false);
        due.is("P3 needs(0, 0, 16)", x.needs(0, 0, 16), false);
        due.is("P3 needs(0, 0, 32)", x.needs(0, 0, 32), false);
        go(x, 0, 0);
        due.is("P3 held as told", x.look(0, 3), 1 | 1 << 15);
        x.close();
        due.is("P3 needs when closed", x.needs(0, 1, 3), false);
    }

    private static void needsOfActsBegun() {
        DeskTurns x = new DeskTurns();
        x.desk(3, 0);
        x.desk(2, NONE);
        x.needs(0, 0, 4);
        x.needs(1, 0, 4);
        go(x, 0, 1);
        due.is("P3 present act of one that holds", x.needs(0, 0, 1), false);
        due.is("P3 present act of one that waits", x.needs(1, 0, 1), false);
        due.is("P3 later act of one that holds", x.needs(0, 1, 1), true);
        due.is("P3 later act of one that waits", x.needs(1, 1, 1), true);
        go(x, 0);
        due.is("P3 log(0) undone", x.log(0), 2000);
        due.is("P3 present act that was undone", x.needs(0, 0, 1), true);
        go(x, 1, 0, 0, 0);
        due.is("P3 done act", x.needs(0, 0, 9), false);
        due.is("P3 present act not begun", x.needs(0, 1, 9), true);
        DeskTurns y = waitingFor5(2, 2);
        y.interrupt(1);
        due.is("P3 skipped act", y.needs(1, 0, 9), false);
        due.is("P3 act behind the skipped", y.needs(1, 1, 9), true);
        go(y, 0, 0);
        due.is("P3 finished desk", y.needs(0, 1, 9), false);
    }

    private static void needsOfADeadDesk() {
        DeskTurns x = waitingFor5(2);
        x.dead(0);
        due.is("P3 present act of a dead one that holds", x.needs(0, 0, 1), false);
        due.is("P3 later act of a dead one", x.needs(0, 1, 1), true);
        x.tick(101);
        due.is("P3 present act of a dead one that holds nothing", x.needs(0, 0, 1), true);
    }

    private static void turnsAreTold() {
        DeskTurns x = withDesks(12, 12);
        due.is("P4 turn(0)", x.turn(0), 1);
        due.is("P4 turn(1)", x.turn(1), 2);
        due.is("P4 nothing is done by telling", x.count(1), 0);
        x.run();
        due.is("P4 turn(0) behind a run", x.turn(0), 1);
        due.is("P4 count(2)", x.count(2), 3);
    }

    private static void turnRefusals() {
        DeskTurns x = withDesks(1);
        for (int no : new int[] {-1, 1, 8, LEAST, MOST}) {
            due.illegalArgument("P4 turn(" + no + ")", () -> x.turn(no));
        }
        for (int i = 1; i <= 300; i++) {
            due.is("P4 turn " + i, x.turn(0), i <= 150 ? i : i - 150);
            if (i == 150) {
                x.run();
            }
        }
        due.illegalState("P4 turn 301", () -> x.turn(0));
        due.illegalArgument("P4 turn 301 of no desk", () -> x.turn(1));
        due.is("P5 run behind 300", x.run(), 0);
        due.illegalState("P4 turn 301 behind a run", () -> x.turn(0));
        due.is("P4 count(2)", x.count(2), 300);
        due.is("P4 count(3)", x.count(3), 299);
        DeskTurns y = withDesks(1);
        y.close();
        due.illegalState("P4 turn when closed", () -> y.turn(0));
        due.illegalArgument("P4 turn of no desk when closed", () -> y.turn(1));
    }

    private static void turnsRunOnce() {
        DeskTurns x = withDesks(3, 3);
        due.is("P5 run", go(x, 1, 0, 1), 3);
        due.is("P5 run again", x.run(), 0);
        due.is("P5 first", x.log(0), 1100);
        due.is("P5 second", x.log(1), 1000);
        due.is("P5 third", x.log(2), 1101);
        due.is("P5 count(1)", x.count(1), 3);
        due.is("P5 look(1, 0)", x.look(1, 0), 2);
        x.turn(0);
        x.close();
        due.illegalState("P5 run when closed", x::run);
        due.is("P5 nothing ran behind closing", x.count(1), 3);
    }

    private static void leastSubjectIsAskedFirst() {
        DeskTurns x = withDesks(1);
        x.needs(0, 0, 9);
        x.needs(0, 0, 2);
        x.needs(0, 0, 0);
        int[] held = {1, 1 | 4, 1 | 4 | 512};
        for (int h : held) {
            due.is("P5 a step is no act", go(x, 0), 0);
            due.is("P5 held", x.look(0, 3), h);
        }
        due.is("P5 not done yet", x.log(0), NONE);
        due.is("P5 done", go(x, 0), 1);
        due.is("P5 given back", x.count(6), 0);
        due.is("P5 log(0)", x.log(0), 1000);
    }

    private static void failingAct() {
        DeskTurns x = new DeskTurns();
        x.desk(3, 1);
        x.needs(0, 1, 3);
        due.is("P5 act 0", go(x, 0), 1);
        due.is("P5 an undone act is not done", go(x, 0, 0), 0);
        due.is("P5 undone", x.log(1), 2001);
        due.is("P5 undone stays present", x.look(0, 0), 1);
        due.is("P5 undone is not counted as done", x.look(0, 1), 1);
        due.is("P5 undone gives back", x.holder(3), NONE);
        due.is("P5 fails no more", go(x, 0, 0), 1);
        due.is("P5 done", x.log(2), 1001);
        due.is("P5 last", go(x, 0), 1);
        due.is("P5 finished", x.look(0, 2), 2);
    }

    private static void passedOver() {
        DeskTurns x = waitingFor5(2, 1, 1);
        x.dead(2);
        go(x, 1, 2);
        due.is("P5 waiting and dead passed over", x.count(3), 2);
        go(x, 0, 0, 0);
        due.is("P5 finished passed over", x.count(3), 3);
        due.is("P5 done by desk 0", x.look(0, 1), 2);
    }

    private static void logEntries() {
        DeskTurns x = withDesks(12, 1, 1, 1, 1, 1, 1, 1);
        go(x, 7, 0, 0, 0, 0, 0, 0, 0, 0, 0, 0, 0, 0);
        due.is("P6 log(0)", x.log(0), 1700);
        for (int a = 0; a < 12; a++) {
            due.is("P6 log(" + (a + 1) + ")", x.log(a + 1), 1000 + a);
        }
        for (int no : new int[] {13, 399, 400, 401, -1, LEAST, MOST}) {
            due.is("P6 log(" + no + ")", x.log(no), NONE);
        }
    }

    private static void longestLog() {
        DeskTurns x = new DeskTurns();
        for (int d = 0; d < 8; d++) {
            x.desk(12, d);
        }
        for (int round = 0; round < 13; round++) {
            due.is("P6 round " + round, go(x, 0, 1, 2, 3, 4, 5, 6, 7), round < 8 ? 7 : 8);
        }
        due.is("P6 count(1)", x.count(1), 8 * 13);
        due.is("P6 last entry", x.log(8 * 13 - 1), 1711);
        due.is("P6 behind the last", x.log(8 * 13), NONE);
    }

    private static void holders() {
        DeskTurns x = withDesks(1, 2);
        x.needs(0, 0, 0);
        x.needs(1, 0, 15);
        go(x, 1, 0);
        due.is("P7 holder(0)", x.holder(0), 0);
        due.is("P7 holder(15)", x.holder(15), 1);
        due.is("P7 holder(1)", x.holder(1), NONE);
        for (int no : new int[] {-1, 16, LEAST, MOST}) {
            due.illegalArgument("P7 holder(" + no + ")", () -> x.holder(no));
        }
        go(x, 1);
        due.is("P7 given back", x.holder(15), NONE);
        due.is("P7 the other keeps", x.holder(0), 0);
    }

    private static void waitsInOrderOfAsking() {
        DeskTurns x = withDesks(1, 1, 1, 1, 1, 1, 1, 1);
        for (int d = 0; d < 8; d++) {
            x.needs(d, 0, 6);
        }
        int[] order = {3, 7, 0, 5, 1, 6, 2, 4};
        go(x, order);
        for (int i = 1; i < 8; i++) {
            due.is("P8 waits(6, " + (i - 1) + ")", x.waits(6, i - 1), order[i]);
        }
        for (int no : new int[] {7, 8, -1, LEAST, MOST}) {
            due.is("P8 waits(6, " + no + ")", x.waits(6, no), NONE);
        }
        for (int no : new int[] {-1, 16, LEAST, MOST}) {
            due.illegalArgument("P8 waits(" + no + ", 0)", () -> x.waits(no, 0));
        }
        due.is("P8 another subject", x.waits(5, 0), NONE);
        x.interrupt(5);
        due.is("P8 behind the one that left", x.waits(6, 2), 1);
        for (int d : new int[] {3, 7, 0, 1, 6, 2, 4}) {
            due.is("P8 has it in the order of asking", x.holder(6), d);
            due.is("P8 waits no more", x.look(d, 4), NONE);
            due.is("P8 does it", go(x, d), 1);
        }
        due.is("P8 nobody has it at last", x.holder(6), NONE);
    }

    private static void handedOverByNumbers() {
        DeskTurns x = withDesks(1, 1, 1);
        x.needs(0, 0, 2);
        x.needs(0, 0, 8);
        x.needs(1, 0, 8);
        x.needs(2, 0, 2);
        x.needs(2, 0, 8);
        x.tick(7);
        go(x, 0, 0, 1, 2);
        due.is("P8 desk 2 waits for its least", x.look(2, 4), 2);
        go(x, 0);
        due.is("P7 subject 2", x.holder(2), 2);
        due.is("P7 subject 8", x.holder(8), 1);
        due.is("P13 has one, may go on", x.look(2, 2), 0);
        go(x, 2);
        due.is("P8 asks for the next one", x.waits(8, 0), 2);
        due.is("P13 waits while it holds", x.look(2, 3), 4);
        due.is("P5 in the end all is done", go(x, 1, 2), 2);
    }

    private static void interruptedWaits() {
        DeskTurns x = withDesks(1, 2, 1);
        x.needs(0, 0, 9);
        x.needs(1, 0, 4);
        x.needs(1, 0, 9);
        x.needs(2, 0, 4);
        go(x, 0, 1, 1, 2);
        due.is("P9 one that only holds", x.interrupt(0), false);
        for (int no : new int[] {-1, 3, 8, LEAST, MOST}) {
            due.is("P9 interrupt(" + no + ")", x.interrupt(no), false);
        }
        due.is("P9 interrupt(1)", x.interrupt(1), true);
        due.is("P9 log(0)", x.log(0), 3100);
        due.is("P9 waits no more", x.waits(9, 0), NONE);
        due.is("P9 gives back to one that waits", x.holder(4), 2);
        due.is("P9 next act", x.look(1, 0), 1);
        due.is("P9 skipped is not done", x.look(1, 1), 0);
        due.is("P9 may go on", x.look(1, 2), 0);
        due.is("P9 interrupt(1) again", x.interrupt(1), false);
        due.is("P9 does its next act", go(x, 1), 1);
        due.is("P9 log(1)", x.log(1), 1101);
        due.is("P9 finished", x.interrupt(1), false);
        due.is("P9 count(1)", x.count(1), 2);
    }

    private static void interruptOfTheLastAct() {
        DeskTurns x = waitingFor5(1, 1);
        due.is("P9 interrupt(1)", x.interrupt(1), true);
        due.is("P9 finished by skipping", x.look(1, 2), 2);
        due.is("P9 as many acts as it has", x.look(1, 0), 1);
        due.is("P9 dead of the finished", x.dead(1), NONE);
        due.is("P9 close ends the other alone", x.close(), 1);
        due.is("P9 interrupt when closed", x.interrupt(0), false);
    }

    private static void deadDesks() {
        DeskTurns x = withDesks(1, 2);
        x.needs(1, 0, 0);
        x.needs(1, 0, 1);
        go(x, 0, 1, 1);
        for (int no : new int[] {-1, 2, 8, LEAST, MOST}) {
            due.illegalArgument("P10 dead(" + no + ")", () -> x.dead(no));
        }
        due.is("P10 dead of the finished", x.dead(0), NONE);
        due.is("P10 the finished stays finished", x.look(0, 2), 2);
        due.is("P10 dead(1)", x.dead(1), 2);
        due.is("P10 dead(1) again", x.dead(1), NONE);
        due.is("P10 keeps what it holds", x.look(1, 3), 3);
        due.is("P10 look(1, 2)", x.look(1, 2), 3);
        due.is("P10 does nothing", go(x, 1), 0);
        due.is("P10 passed over", x.count(3), 1);
        due.is("P10 no entry of it", x.count(1), 1);
        x.close();
        due.is("P10 dead of the ended", x.dead(1), NONE);
        due.illegalArgument("P10 dead(2) when closed", () -> x.dead(2));
        DeskTurns y = withDesks(1);
        due.is("P10 holds nothing", y.dead(0), 0);
    }

    private static void deadWhileWaiting() {
        DeskTurns x = waitingFor5(1, 1, 1);
        due.is("P10 dead(1)", x.dead(1), 0);
        due.is("P10 waits no more", x.look(1, 4), NONE);
        due.is("P10 the one behind moves up", x.waits(5, 0), 2);
        due.is("P10 interrupt of the dead", x.interrupt(1), false);
        go(x, 0);
        due.is("P10 handed past the dead", x.holder(5), 2);
    }

    private static void freedByTime() {
        DeskTurns x = withDesks(2, 2);
        x.needs(0, 0, 1);
        x.needs(0, 0, 2);
        x.needs(1, 0, 3);
        go(x, 0);
        x.tick(50);
        go(x, 0, 1);
        x.dead(0);
        due.is("P11 tick(100)", x.tick(100), 0);
        due.is("P11 tick(101)", x.tick(101), 1);
        due.is("P11 the first is freed", x.holder(1), NONE);
        due.is("P11 the second is kept", x.look(0, 3), 4);
        due.is("P11 tick(150)", x.tick(150), 0);
        due.is("P11 tick(151)", x.tick(151), 1);
        due.is("P11 the living keep theirs", x.tick(100000), 0);
        due.is("P11 holder(3)", x.holder(3), 1);
        due.is("P11 dead at last", x.dead(1), 1);
        due.is("P11 freed by the same time told again", x.tick(100000), 1);
        due.is("P11 nothing held", x.count(6), 0);
    }

    private static void freedToOneThatWaits() {
        DeskTurns x = waitingFor5(1, 1, 1);
        x.dead(0);
        due.is("P11 tick(300)", x.tick(300), 1);
        due.is("P11 the first that waits has it", x.holder(5), 1);
        due.is("P11 may go on", x.look(1, 2), 0);
        x.dead(1);
        due.is("P11 got at the new time", x.tick(400), 0);
        due.is("P11 tick(401)", x.tick(401), 1);
        due.is("P11 the next has it", x.holder(5), 2);
        due.is("P11 does its act", go(x, 2), 1);
    }

    private static void timeOfTheLastGetting() {
        DeskTurns x = withDesks(2);
        x.needs(0, 0, 6);
        x.needs(0, 1, 6);
        x.tick(10);
        go(x, 0, 0);
        x.tick(200);
        go(x, 0);
        x.dead(0);
        due.is("P11 got anew at 200", x.tick(300), 0);
        due.is("P11 tick(301)", x.tick(301), 1);
    }

    private static void tickRefusals() {
        DeskTurns x = withDesks(1);
        for (int no : new int[] {-1, 100001, LEAST, MOST}) {
            due.illegalArgument("P11 tick(" + no + ")", () -> x.tick(no));
        }
        due.is("P11 tick(5)", x.tick(5), 0);
        due.illegalArgument("P11 tick(4)", () -> x.tick(4));
        due.is("P11 the time stays", x.count(4), 5);
        due.is("P11 tick(5) again", x.tick(5), 0);
        x.close();
        due.is("P11 tick when closed", x.tick(6), 0);
        due.is("P11 the time goes on when closed", x.count(4), 6);
        due.is("P11 tick(100000)", x.tick(100000), 0);
        due.illegalArgument("P11 tick(99999)", () -> x.tick(99999));
    }

    private static void closing() {
        DeskTurns x = withDesks(1, 2, 2, 2, 2);
        x.needs(1, 1, 0);
        x.needs(2, 0, 0);
        x.needs(3, 0, 4);
        go(x, 0, 1, 1, 2, 3);
        x.dead(3);
        due.is("P12 close()", x.close(), 4);
        due.is("P12 close() again", x.close(), NONE);
        due.is("P12 ended while it held", x.log(2), 4101);
        due.is("P12 ended while it waited", x.log(3), 4200);
        due.is("P12 ended dead while it held", x.log(4), 4300);
        due.is("P12 not in the midst of an act", x.log(5), NONE);
        due.is("P12 finished stays finished", x.look(0, 2), 2);
        for (int d = 1; d < 5; d++) {
            due.is("P12 ended " + d, x.look(d, 2), 4);
            due.is("P12 holds nothing " + d, x.look(d, 3), 0);
            due.is("P12 waits no more " + d, x.look(d, 4), NONE);
        }
        due.is("P12 present act stays", x.look(1, 0), 1);
        due.is("P12 nothing is held", x.count(6), 0);
        DeskTurns y = waitingFor5(1, 1);
        y.dead(1);
        due.is("P12 close() with a dead one that waited", y.close(), 2);
        due.is("P12 it is told no more", y.count(1), 1);
    }

    private static void closingHandsOver() {
        DeskTurns x = withDesks(1, 1, 1);
        x.needs(2, 0, 5);
        x.needs(0, 0, 5);
        x.needs(1, 0, 5);
        go(x, 2, 1, 0);
        due.is("P12 close()", x.close(), 3);
        for (int d = 0; d < 3; d++) {
            due.is("P12 log(" + d + ")", x.log(d), 4000 + 100 * d);
        }
        due.is("P12 nobody holds", x.holder(5), NONE);
        due.is("P12 nobody waits", x.waits(5, 0), NONE);
    }

    private static void closedTellsNothing() {
        DeskTurns x = waitingFor5(2, 2);
        x.turn(0);
        x.close();
        due.is("P12 interrupt", x.interrupt(1), false);
        due.is("P12 needs", x.needs(0, 1, 1), false);
        due.is("P12 dead", x.dead(0), NONE);
        due.illegalState("P12 run", x::run);
        due.illegalState("P12 turn", () -> x.turn(0));
        due.illegalState("P12 desk", () -> x.desk(1, NONE));
        due.is("P12 turns told", x.count(2), 3);
        due.is("P12 passed over", x.count(3), 0);
        due.is("P12 entries", x.count(1), 2);
        due.is("P12 tick", x.tick(1000), 0);
    }

    private static void looks() {
        DeskTurns x = waitingFor5(2, 2);
        int[] first = {0, 0, 0, 32, NONE};
        int[] second = {0, 0, 1, 0, 5};
        lookIs(x, 0, first);
        lookIs(x, 1, second);
        go(x, 0);
        lookIs(x, 0, 1, 1, 0, 0, NONE);
        lookIs(x, 1, 0, 0, 0, 32, NONE);
        go(x, 0);
        lookIs(x, 0, 2, 2, 2, 0, NONE);
        x.dead(1);
        lookIs(x, 1, 0, 0, 3, 32, NONE);
        x.close();
        lookIs(x, 0, 2, 2, 2, 0, NONE);
        lookIs(x, 1, 0, 0, 4, 0, NONE);
    }

    private static void lookIs(DeskTurns x, int desk, int... want) {
        for (int what = 0; what < want.length; what++) {
            due.is("P13 look(" + desk + ", " + what + ")", x.look(desk, what), want[what]);
        }
    }

    private static void lookRefusals() {
        DeskTurns x = withDesks(1);
        for (int no : new int[] {-1, 1, 8, LEAST, MOST}) {
            due.outOfBounds("P13 look(" + no + ", 0)", () -> x.look(no, 0));
        }
        for (int no : new int[] {-1, 5, LEAST, MOST}) {
            due.outOfBounds("P13 look(0, " + no + ")", () -> x.look(0, no));
        }
    }

    private static void counts() {
        DeskTurns x = waitingFor5(2, 2);
        x.needs(0, 1, 7);
        go(x, 1, 0, 0);
        x.turn(0);
        x.tick(42);
        int[] open = {2, 1, 6, 1, 42, 0, 2};
        for (int what = 0; what < open.length; what++) {
            due.is("P14 count(" + what + ")", x.count(what), open[what]);
        }
        for (int no : new int[] {-1, 7, LEAST, MOST}) {
            due.is("P14 count(" + no + ")", x.count(no), NONE);
        }
        x.close();
        int[] closed = {2, 3, 6, 1, 42, 1, 0};
        for (int what = 0; what < closed.length; what++) {
            due.is("P14 closed count(" + what + ")", x.count(what), closed[what]);
        }
    }
}
