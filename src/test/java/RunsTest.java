/** Promises 14, 16, 17 and 18: how runs go on and end, and what is told of them afterwards. */
public final class RunsTest {
    private static final Due DUE = new Due();
    private static final int SPENT = -3, NONE = -4;
    private static final int NOTHING = -11, BARE = -12, PLACE = -13, MISFIT = -14, SIZE = -15, WIDE = -16;
    private static final int TAKE = 0, READ = 1, LAY = 2, MAKE = 4, GO = 7, SET = 8, WHILE = 9, JUMP = 12, DROP = 13;

    public static void main(String[] args) {
        noActs();
        behindTheLastAct();
        goingOnAtE();
        overByCause();
        overByALaterCauseThanTheFirst();
        aCauseIsForgottenWhenTheRunGoesOn();
        spentOnlyIfOneMoreWouldBegin();
        theFortiethStepEndsTheRun();
        whereStays();
        aRunBeginsWithAllAsItIs();
        everyCauseIsCounted();
        DUE.end("RunsTest");
    }

    private static void noActs() {
        RelayTrays x = new RelayTrays();
        DUE.due("run()", x.run(), 0);
        DUE.due("begun()", x.begun(), 0);
        DUE.due("where()", x.where(), NONE);
        DUE.due("count(2)", x.count(2), 1);
        DUE.due("count(3)", x.count(3), 0);
        DUE.due("count(4)", x.count(4), 0);
        x.step(SET, 0, 0, 0, 0);
        x.run();
        DUE.due("begun()", x.begun(), 1);
        x.clear();
        DUE.due("begun() behind clear()", x.begun(), 1);
        x.run();
        DUE.due("begun() of the latest run", x.begun(), 0);
    }

    private static void behindTheLastAct() {
        RelayTrays x = new RelayTrays();
        for (int i = 0; i < 5; i++) {
            x.step(GO, 0, 1, 0, 0);
        }
        DUE.due("run()", x.run(), 5);
        DUE.due("point()", x.point(), 5);
        DUE.due("begun()", x.begun(), 5);
        DUE.due("run() once more", x.run(), 5);
        DUE.due("point()", x.point(), 10);
        DUE.due("count(2)", x.count(2), 2);
    }

    private static void goingOnAtE() {
        RelayTrays x = new RelayTrays();
        x.step(TAKE, 0, 0, 0, 2);
        x.step(SET, 0, 50, 0, 0);
        x.step(GO, 0, 1, 0, 0);
        DUE.due("run() over an act", x.run(), 2);
        DUE.due("point()", x.point(), 1);
        DUE.due("where()", x.where(), 0);
        DUE.due("count(11)", x.count(11), 1);
        DUE.due("count(3)", x.count(3), 0);
    }

    private static void overByCause() {
        RelayTrays x = new RelayTrays();
        x.step(SET, 0, 3, 0, 0);
        x.step(LAY, 0, 0, 0, -1);
        x.step(GO, 0, 1, 0, 0);
        DUE.due("run()", x.run(), NOTHING);
        DUE.due("begun()", x.begun(), 2);
        DUE.due("where()", x.where(), 1);
        DUE.due("point()", x.point(), 3);
        for (int none : new int[] {3, 40, -1, Integer.MIN_VALUE, Integer.MAX_VALUE}) {
            x.alter(1, LAY, 0, 0, 0, none);
            DUE.due("run() with e " + none, x.run(), NOTHING);
        }
        DUE.due("count(3)", x.count(3), 6);
        DUE.due("count(11)", x.count(11), 6);
        x.make(0, 4, 1);
        DUE.due("run() with a bare hand", x.run(), BARE);
        x.give(4, 1);
        DUE.due("run() at no place", x.run(), PLACE);
        x.make(0, 1, 4);
        DUE.due("run() of a misfit", x.run(), MISFIT);
        x.give(1, 1);
        DUE.due("run() that meets none", x.run(), 3);
    }

    private static void overByALaterCauseThanTheFirst() {
        RelayTrays x = new RelayTrays();
        x.make(1, 4, 1);
        x.step(TAKE, 0, 0, 0, 2);
        x.step(DROP, 0, 0, 0, 0);
        x.step(TAKE, 1, 1, 0, 9);
        DUE.due("run()", x.run(), PLACE);
        DUE.due("where()", x.where(), 2);
        DUE.due("begun()", x.begun(), 2);
        DUE.due("count(11)", x.count(11), 1);
        DUE.due("count(13)", x.count(13), 1);
        DUE.due("count(3)", x.count(3), 1);
    }

    private static void aCauseIsForgottenWhenTheRunGoesOn() {
        RelayTrays x = new RelayTrays();
        x.step(TAKE, 0, 0, 0, 1);
        x.step(JUMP, 0, 77, 0, 0);
        DUE.due("a run over by a jump", x.run(), 2);
        x.alter(1, DROP, 0, 0, 0, 0);
        DUE.due("a run over behind the last act", x.run(), 2);
        x.alter(0, TAKE, 0, 0, 0, 0);
        DUE.due("a run that meets a cause for ever", x.run(), SPENT);
        DUE.due("begun()", x.begun(), 40);
        DUE.due("count(3)", x.count(3), 0);
        DUE.due("count(4)", x.count(4), 1);
        DUE.due("count(11)", x.count(11), 42);
    }

    private static void spentOnlyIfOneMoreWouldBegin() {
        RelayTrays x = new RelayTrays();
        for (int i = 0; i < 40; i++) {
            x.step(GO, 0, 1, 0, 0);
        }
        DUE.due("run() of 40 steps", x.run(), 40);
        DUE.due("count(4)", x.count(4), 0);
        x.alter(39, JUMP, 0, 39, 0, 0);
        DUE.due("run() of 41 steps", x.run(), SPENT);
        DUE.due("begun()", x.begun(), 40);
        DUE.due("point()", x.point(), 79);
        DUE.due("count(2)", x.count(2), 2);
        DUE.due("count(4)", x.count(4), 1);
    }

    private static void theFortiethStepEndsTheRun() {
        RelayTrays x = new RelayTrays();
        for (int i = 0; i < 39; i++) {
            x.step(GO, 0, 1, 0, 0);
        }
        x.step(TAKE, 0, 0, 0, 40);
        DUE.due("run() over by a cause of step 40", x.run(), NOTHING);
        DUE.due("begun()", x.begun(), 40);
        DUE.due("where()", x.where(), 39);
        x.alter(39, TAKE, 0, 0, 0, 0);
        DUE.due("run() that would go on behind it", x.run(), SPENT);
        DUE.due("count(3)", x.count(3), 1);
        DUE.due("count(4)", x.count(4), 1);
        x.alter(39, JUMP, 0, -1, 0, 0);
        DUE.due("run() over by a jump of step 40", x.run(), 40);
        DUE.due("count(2)", x.count(2), 3);
    }

    private static void whereStays() {
        RelayTrays x = new RelayTrays();
        x.step(DROP, 0, 0, 0, 0);
        x.step(LAY, 0, 0, 0, -1);
        x.run();
        DUE.due("where()", x.where(), 1);
        x.make(0, 1, -1);
        x.put(5, 0, 1, 1);
        x.look(5, 0);
        DUE.due("where() behind causes of no run", x.where(), 1);
        x.clear();
        DUE.due("where() behind clear()", x.where(), 1);
        x.step(DROP, 0, 0, 0, 0);
        x.run();
        DUE.due("where() behind a run that met none", x.where(), 1);
        DUE.due("begun()", x.begun(), 1);
        x.alter(0, WHILE, 0, 0, 0, -1);
        x.run();
        DUE.due("where() behind the next cause", x.where(), 0);
    }

    private static void aRunBeginsWithAllAsItIs() {
        RelayTrays x = new RelayTrays();
        x.make(0, 4, 3);
        x.give(4, 6);
        x.step(LAY, 0, 0, 0, -1);
        x.step(GO, 0, 1, 0, 0);
        DUE.due("run()", x.run(), 2);
        DUE.due("run()", x.run(), 2);
        DUE.due("run()", x.run(), 2);
        DUE.due("run()", x.run(), PLACE);
        for (int i = 0; i < 3; i++) {
            x.look(0, i);
            DUE.due("seen()", x.seen(), 6);
        }
        DUE.due("point()", x.point(), 3);
        DUE.due("hand()", x.hand(), 4);
    }

    private static void everyCauseIsCounted() {
        RelayTrays x = new RelayTrays();
        x.make(1, 6, 1);
        x.step(TAKE, 0, 0, 0, 1);
        x.step(LAY, 1, 0, 0, 2);
        x.step(TAKE, 1, 1, 0, 3);
        x.step(READ, 1, 0, 5, 4);
        x.step(MAKE, 0, -1, 0, 5);
        x.step(MAKE, 0, 13, 0, 6);
        DUE.due("run()", x.run(), WIDE);
        DUE.due("begun()", x.begun(), 6);
        DUE.due("where()", x.where(), 5);
        for (int cause = 1; cause <= 6; cause++) {
            DUE.due("count(" + (10 + cause) + ")", x.count(10 + cause), 1);
        }
        DUE.due("put()", x.put(0, 0, 0, 0), NOTHING);
        DUE.due("put()", x.put(1, 1, 0, 0), PLACE);
        DUE.due("put()", x.put(1, 0, 0, 0), MISFIT);
        DUE.due("look()", x.look(0, 0), NOTHING);
        DUE.due("look()", x.look(1, 1), PLACE);
        DUE.due("make()", x.make(0, 0, -1), SIZE);
        DUE.due("make()", x.make(0, 0, 13), WIDE);
        int[] due = {3, 1, 3, 2, 2, 2};
        for (int cause = 1; cause <= 6; cause++) {
            DUE.due("count(" + (10 + cause) + ")", x.count(10 + cause), due[cause - 1]);
        }
        DUE.due("count(3)", x.count(3), 1);
        DUE.due("runs", x.count(2), 1);
    }
}
