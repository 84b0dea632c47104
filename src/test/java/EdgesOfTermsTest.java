/** One test for each sentence of the section "Terms" that names a boundary. */
public final class EdgesOfTermsTest extends Scenes {
    private static final Due due = new Due();

    public static void main(String[] args) {
        due.test("An object is used for at most 512 calls", EdgesOfTermsTest::all512Calls);
        due.test("DESKS 0 .. 7 (8 at most)", EdgesOfTermsTest::eightDesks);
        due.test("DESKS 0 .. 7: the last one is a desk as the others", EdgesOfTermsTest::lastDesk);
        due.test("ACTS 0 .. n - 1 (n 1 .. 12): one act", EdgesOfTermsTest::oneAct);
        due.test("ACTS 0 .. n - 1 (n 1 .. 12): twelve acts", EdgesOfTermsTest::twelveActs);
        due.test("An act NEEDS subjects (0 .. 15)", EdgesOfTermsTest::sixteenSubjects);
        due.test("An act NEEDS subjects (none at first)", EdgesOfTermsTest::noNeedsAtFirst);
        due.test("TIME is 0 .. 100000", EdgesOfTermsTest::latestTime);
        due.test("TIME is 0 at first", EdgesOfTermsTest::firstTime);
        due.test("A SUBJECT is held by one desk at most", EdgesOfTermsTest::oneHolder);
        due.test("others WAIT for it, in the order in which they asked", EdgesOfTermsTest::orderOfAsking);
        due.test("who asks again has asked last", EdgesOfTermsTest::askedAgain);
        due.test("When it is given back, the first that waits has it at once", EdgesOfTermsTest::hasItAtOnce);
        due.test("(and waits no more)", EdgesOfTermsTest::waitsNoMore);
        due.test("given back while nobody waits, nobody has it", EdgesOfTermsTest::givenBackToNobody);
        due.test("A TURN is one STEP", EdgesOfTermsTest::oneStep);
        due.test("it asks for the least one that it does not hold", EdgesOfTermsTest::leastOne);
        due.test("it has it, if nobody has; else it WAITS", EdgesOfTermsTest::waitsForTheLeast);
        due.test("all its subjects are given back", EdgesOfTermsTest::allGivenBack);
        due.test("the next act is its present one", EdgesOfTermsTest::needsOfTheNextAct);
        due.test("behind the last act the desk is FINISHED", EdgesOfTermsTest::finished);
        due.test("A turn of a desk that WAITS is passed over", EdgesOfTermsTest::waitingPassedOver);
        due.test("A turn of a desk that is FINISHED is passed over", EdgesOfTermsTest::finishedPassedOver);
        due.test("A turn of a desk that is DEAD is passed over", EdgesOfTermsTest::deadPassedOver);
        due.test("AN ACT that is told to FAIL is undone, whichever it is", EdgesOfTermsTest::eachActFails);
        due.test("undone instead of done, the first time, and fails no more", EdgesOfTermsTest::failsOnce);
        due.test("undone: not before it holds all", EdgesOfTermsTest::failsWhenItHoldsAll);
        due.test("undone: all subjects are given back", EdgesOfTermsTest::undoneGivesBack);
        due.test("turns are told (300 at most in all)", EdgesOfTermsTest::turnsAtMost);
        due.test("turns are run in that order", EdgesOfTermsTest::orderOfTurns);
        due.test("turns are run once each", EdgesOfTermsTest::turnsRunOnce);
        due.test("THE LOG (400 entries at most are kept, the first ones)", EdgesOfTermsTest::longestLog);
        due.test("1000 * what + 100 * desk + act", EdgesOfTermsTest::greatestEntries);
        due.test("NONE = -1", () -> due.is("NONE", DeskTurns.NONE, -1));
        due.end();
    }

    private static void all512Calls() {
        DeskTurns x = withDesks(12, 12);
        for (int call = 3; call <= 302; call++) {
            due.is("turn", x.turn(call % 2), call - 2);
        }
        for (int call = 303; call <= 510; call++) {
            due.is("run", x.run(), call == 303 ? 24 : 0);
        }
        due.is("call 511: log(23)", x.log(23), 1011);
        due.is("call 512: close()", x.close(), 0);
    }

    private static void eightDesks() {
        DeskTurns x = new DeskTurns();
        for (int d = 0; d < 8; d++) {
            due.is("desk", x.desk(12, NONE), d);
        }
        due.illegalState("a ninth desk", () -> x.desk(12, NONE));
        due.is("count(0)", x.count(0), 8);
    }

    private static void lastDesk() {
        DeskTurns x = withDesks(1, 1, 1, 1, 1, 1, 1, 2);
        due.is("needs(7, 0, 15)", x.needs(7, 0, 15), true);
        due.is("turn(7)", x.turn(7), 1);
        x.run();
        due.is("holder(15)", x.holder(15), 7);
        due.is("the act is done", go(x, 7), 1);
        due.is("log(0)", x.log(0), 1700);
        due.is("look(7, 0)", x.look(7, 0), 1);
        due.is("dead(7)", x.dead(7), 0);
    }

    private static void oneAct() {
        DeskTurns x = withDesks(1);
        due.is("look(0, 2)", x.look(0, 2), 0);
        due.is("one act done", go(x, 0), 1);
        due.is("finished", x.look(0, 2), 2);
        due.is("no second one", go(x, 0), 0);
        due.illegalArgument("desk(0, NONE)", () -> x.desk(0, NONE));
    }

    private static void twelveActs() {
        DeskTurns x = withDesks(12);
        for (int act = 0; act < 12; act++) {
            due.is("present act", x.look(0, 0), act);
            due.is("not finished at " + act, x.look(0, 2), 0);
            due.is("act " + act, go(x, 0), 1);
            due.is("log", x.log(act), 1000 + act);
        }
        due.is("finished", x.look(0, 2), 2);
        due.is("no thirteenth one", go(x, 0), 0);
        due.illegalArgument("desk(13, NONE)", () -> x.desk(13, NONE));
    }

    private static void sixteenSubjects() {
        DeskTurns x = withDesks(1);
        for (int s = 15; s >= 0; s--) {
            due.is("needs(0, 0, " + s + ")", x.needs(0, 0, s), true);
        }
        for (int s = 0; s < 16; s++) {
            due.is("a step for subject " + s, go(x, 0), 0);
            due.is("held", x.look(0, 3), (1 << s + 1) - 1);
        }
        due.is("count(6)", x.count(6), 16);
        due.is("the act is done", go(x, 0), 1);
        due.is("all given back", x.count(6), 0);
        due.is("needs(0, 0, 16)", withDesks(1).needs(0, 0, 16), false);
        due.is("needs(0, 0, -1)", withDesks(1).needs(0, 0, -1), false);
    }

    private static void noNeedsAtFirst() {
        DeskTurns x = withDesks(12, 12);
        due.is("each step is an act", goOften(x, 0, 12), 12);
        x.needs(1, 3, 0);
        due.is("the others of a desk need nothing still", goOften(x, 1, 13), 12);
    }

    private static void latestTime() {
        DeskTurns x = new DeskTurns();
        due.illegalArgument("tick(100001)", () -> x.tick(100001));
        due.is("tick(100000)", x.tick(100000), 0);
        due.is("count(4)", x.count(4), 100000);
        due.illegalArgument("tick(100001) behind it", () -> x.tick(100001));
    }

    private static void firstTime() {
        DeskTurns x = waitingFor5(1);
        due.is("count(4)", x.count(4), 0);
        due.illegalArgument("tick(-1)", () -> x.tick(-1));
        due.is("tick(0)", x.tick(0), 0);
        x.dead(0);
        due.is("got at 0: kept at 100", x.tick(100), 0);
        due.is("got at 0: freed at 101", x.tick(101), 1);
    }

    private static void oneHolder() {
        DeskTurns x = waitingFor5(1, 1, 1, 1, 1, 1, 1, 1);
        for (int d = 0; d < 8; d++) {
            due.is("holder(5)", x.holder(5), d);
            due.is("count(6)", x.count(6), 1);
            for (int other = 0; other < 8; other++) {
                due.is("look(" + other + ", 3)", x.look(other, 3), other == d ? 32 : 0);
            }
            go(x, d);
        }
        due.is("count(6) at last", x.count(6), 0);
    }

    private static void orderOfAsking() {
        DeskTurns x = withDesks(1, 1, 1, 1, 1, 1, 1, 1);
        int[] order = {4, 6, 1, 7, 0, 3, 5, 2};
        for (int d : order) {
            x.needs(d, 0, 0);
        }
        go(x, order);
        for (int i = 1; i < 8; i++) {
            due.is("waits(0, " + (i - 1) + ")", x.waits(0, i - 1), order[i]);
        }
        for (int d : order) {
            due.is("holder(0)", x.holder(0), d);
            go(x, d);
        }
    }

    private static void askedAgain() {
        DeskTurns x = waitingFor5(1, 2, 1);
        x.needs(1, 1, 5);
        x.interrupt(1);
        go(x, 1);
        due.is("waits(5, 0)", x.waits(5, 0), 2);
        due.is("waits(5, 1)", x.waits(5, 1), 1);
        go(x, 0);
        due.is("holder(5)", x.holder(5), 2);
        go(x, 2);
        due.is("holder(5) then", x.holder(5), 1);
    }

    private static void hasItAtOnce() {
        DeskTurns x = waitingFor5(1, 1, 1);
        due.is("both acts are done in one run, without another asking", go(x, 0, 1), 2);
        due.is("holder(5)", x.holder(5), 2);
        due.is("nothing passed over", x.count(3), 0);
    }

    private static void waitsNoMore() {
        DeskTurns x = waitingFor5(1, 1, 1);
        go(x, 0);
        due.is("waits(5, 0)", x.waits(5, 0), 2);
        due.is("waits(5, 1)", x.waits(5, 1), NONE);
        due.is("look(1, 2)", x.look(1, 2), 0);
        due.is("look(1, 4)", x.look(1, 4), NONE);
        due.is("interrupt(1)", x.interrupt(1), false);
        due.is("the next one waits still", x.look(2, 4), 5);
    }

    private static void givenBackToNobody() {
        DeskTurns x = waitingFor5(2, 1);
        x.interrupt(1);
        go(x, 0);
        due.is("holder(5)", x.holder(5), NONE);
        due.is("count(6)", x.count(6), 0);
    }

    private static void oneStep() {
        DeskTurns x = withDesks(2);
        needsAll(x, 0, 0, 7, 8);
        due.is("the first asking", go(x, 0), 0);
        due.is("one subject", x.look(0, 3), 1 << 7);
        due.is("the second asking", go(x, 0), 0);
        due.is("both", x.look(0, 3), 3 << 7);
        due.is("nothing told yet", x.count(1), 0);
        due.is("the act", go(x, 0), 1);
        due.is("not the next act too", x.look(0, 0), 1);
    }

    private static void leastOne() {
        DeskTurns x = withDesks(1);
        needsAll(x, 0, 0, 14, 3, 15, 0);
        int held = 0;
        for (int s : new int[] {0, 3, 14, 15}) {
            held |= 1 << s;
            go(x, 0);
            due.is("held", x.look(0, 3), held);
        }
    }

    private static void waitsForTheLeast() {
        DeskTurns x = withDesks(1, 1);
        x.needs(0, 0, 2);
        needsAll(x, 1, 0, 2, 9);
        go(x, 0, 1, 1);
        due.is("waits for 2", x.look(1, 4), 2);
        due.is("asks not for 9, which is free", x.holder(9), NONE);
        go(x, 0, 1);
        due.is("has both", x.look(1, 3), 1 << 2 | 1 << 9);
    }

    private static void allGivenBack() {
        DeskTurns x = withDesks(1, 1, 1, 1, 1, 1, 1, 1);
        needsAll(x, 0, 0, 0, 1, 2, 3, 4, 5, 6, 7, 8, 9, 10, 11, 12, 13, 14, 15);
        goOften(x, 0, 16);
        int[] wanted = {NONE, 15, 0, 8, 7, 1, 14, 4};
        for (int d = 1; d < 8; d++) {
            x.needs(d, 0, wanted[d]);
        }
        go(x, 1, 2, 3, 4, 5, 6, 7);
        go(x, 0);
        for (int d = 1; d < 8; d++) {
            due.is("holder(" + wanted[d] + ")", x.holder(wanted[d]), d);
        }
        due.is("the others are held by nobody", x.count(6), 7);
        due.is("look(0, 3)", x.look(0, 3), 0);
    }

    private static void needsOfTheNextAct() {
        DeskTurns x = withDesks(3);
        x.needs(0, 0, 1);
        x.needs(0, 2, 3);
        go(x, 0, 0);
        due.is("act 1 needs nothing", go(x, 0), 1);
        due.is("act 2 needs one", go(x, 0), 0);
        due.is("its own one", x.look(0, 3), 8);
    }

    private static void finished() {
        DeskTurns x = withDesks(3);
        go(x, 0, 0);
        due.is("ahead of the last", x.look(0, 2), 0);
        go(x, 0);
        due.is("behind the last", x.look(0, 2), 2);
    }

    private static void waitingPassedOver() {
        DeskTurns x = waitingFor5(1, 1, 1);
        due.is("count(3)", x.count(3), 0);
        due.is("run", go(x, 1, 1), 0);
        due.is("count(3) then", x.count(3), 2);
        due.is("it asks not anew: waits(5, 0)", x.waits(5, 0), 1);
        due.is("it asks not anew: waits(5, 1)", x.waits(5, 1), 2);
        due.is("it asks not anew: waits(5, 2)", x.waits(5, 2), NONE);
    }

    private static void finishedPassedOver() {
        DeskTurns x = withDesks(1);
        go(x, 0);
        due.is("count(3)", x.count(3), 0);
        due.is("run", go(x, 0, 0), 0);
        due.is("count(3) then", x.count(3), 2);
        due.is("count(1)", x.count(1), 1);
    }

    private static void deadPassedOver() {
        DeskTurns x = withDesks(2);
        x.dead(0);
        due.is("run", go(x, 0, 0), 0);
        due.is("count(3)", x.count(3), 2);
        due.is("count(1)", x.count(1), 0);
    }

    private static void eachActFails() {
        for (int f = 0; f < 12; f++) {
            DeskTurns x = new DeskTurns();
            x.desk(12, f);
            due.is("all are done in the end", goOften(x, 0, 13), 12);
            for (int i = 0; i < 13; i++) {
                int want = i == f ? 2000 + f : 1000 + (i < f ? i : i - 1);
                due.is("failing act " + f + ": log(" + i + ")", x.log(i), want);
            }
        }
        due.is("with NONE, none fails", goOften(withDesks(12), 0, 12), 12);
    }

    private static void failsOnce() {
        DeskTurns x = new DeskTurns();
        x.desk(1, 0);
        due.is("the first time", go(x, 0), 0);
        due.is("look(0, 0)", x.look(0, 0), 0);
        due.is("look(0, 1)", x.look(0, 1), 0);
        due.is("look(0, 2)", x.look(0, 2), 0);
        due.is("the second time", go(x, 0), 1);
        due.is("look(0, 2) then", x.look(0, 2), 2);
    }

    private static void failsWhenItHoldsAll() {
        DeskTurns x = new DeskTurns();
        x.desk(1, 0);
        needsAll(x, 0, 0, 4, 6);
        go(x, 0, 0);
        due.is("count(1)", x.count(1), 0);
        due.is("it holds both", x.count(6), 2);
        go(x, 0);
        due.is("log(0)", x.log(0), 2000);
    }

    private static void undoneGivesBack() {
        DeskTurns x = new DeskTurns();
        x.desk(1, 0);
        x.desk(1, NONE);
        needsAll(x, 0, 0, 4, 6);
        x.needs(1, 0, 6);
        go(x, 0, 0, 1, 0);
        due.is("holder(4)", x.holder(4), NONE);
        due.is("holder(6)", x.holder(6), 1);
        due.is("it must ask anew", go(x, 0, 0), 0);
        due.is("and waits", x.look(0, 4), 6);
        due.is("both in the end", go(x, 1, 0), 2);
    }

    private static void turnsAtMost() {
        DeskTurns x = withDesks(12);
        for (int told = 1; told <= 300; told++) {
            due.is("turn " + told, x.turn(0), (told - 1) % 100 + 1);
            if (told % 100 == 0) {
                x.run();
            }
        }
        due.illegalState("turn 301", () -> x.turn(0));
        due.is("count(2)", x.count(2), 300);
        due.is("count(3)", x.count(3), 288);
    }

    private static void orderOfTurns() {
        DeskTurns x = withDesks(3, 3, 3);
        int[] order = {2, 0, 0, 1, 2, 1, 0, 2, 1};
        go(x, order);
        int[] act = new int[3];
        for (int i = 0; i < order.length; i++) {
            due.is("log(" + i + ")", x.log(i), 1000 + 100 * order[i] + act[order[i]]++);
        }
    }

    private static void turnsRunOnce() {
        DeskTurns x = waitingFor5(1, 1);
        due.is("the turn of 1 is passed over, then it has the subject", go(x, 1, 0), 1);
        due.is("a turn that was passed over is run no more", x.run(), 0);
        due.is("holder(5)", x.holder(5), 1);
        due.is("a new turn", go(x, 1), 1);
    }

    /** No run of calls makes more than 13 entries a desk: 12 acts done or skipped, one of them undone first. */
    private static void longestLog() {
        DeskTurns x = new DeskTurns();
        for (int d = 0; d < 8; d++) {
            x.desk(12, 11 - d);
        }
        for (int d = 7; d >= 0; d--) {
            due.is("desk " + d, goOften(x, d, 13), 12);
        }
        due.is("count(1)", x.count(1), 104);
        for (int i = 0; i < 104; i++) {
            int d = 7 - i / 13;
            int step = i % 13;
            int fails = 11 - d;
            int want = step == fails ? 2000 + fails : 1000 + (step < fails ? step : step - 1);
            due.is("log(" + i + ")", x.log(i), want + 100 * d);
        }
    }

    private static void greatestEntries() {
        DeskTurns x = new DeskTurns();
        for (int d = 0; d < 8; d++) {
            x.desk(12, d == 7 ? 11 : NONE);
        }
        needsAll(x, 7, 11, 14, 15);
        goOften(x, 7, 11);
        goOften(x, 7, 3);
        due.is("undone", x.log(11), 2711);
        goOften(x, 7, 2);
        x.needs(6, 0, 15);
        go(x, 6);
        x.interrupt(6);
        due.is("skipped", x.log(12), 3600);
        x.close();
        due.is("ended", x.log(13), 4711);
        due.is("count(1)", x.count(1), 14);
        DeskTurns y = withDesks(12, 1, 1, 1, 1, 1, 1, 12);
        goOften(y, 7, 12);
        go(y, 0);
        due.is("done", y.log(11), 1711);
        due.is("the least one", y.log(12), 1000);
    }
}
