import java.util.Map;

/** "Terms", the sentences on a RUN: where it begins, goes on and is over, and when it is spent. */
public final class RunBoundsTest {
    private static final Due DUE = new Due();
    private static final int SPENT = -3, NONE = -4;
    private static final int NOTHING = -11, PLACE = -13;
    private static final int MIN = Integer.MIN_VALUE, MAX = Integer.MAX_VALUE;

    private static final int TAKE = 0, LAY = 2, COUNT = 3, MAKE = 4, PASS = 5, CLEAR = 6;
    private static final int GO = 7, SET = 8, WHILE = 9, ADD = 10, JUMP = 12, DROP = 13;

    public static void main(String[] args) {
        DUE.sentence("A RUN begins at ACT 0,", RunBoundsTest::beginsAtActNought);
        DUE.sentence("with all as it is;", RunBoundsTest::beginsWithAllAsItIs);
        DUE.sentence("behind an ACT it goes on with the next one,", RunBoundsTest::goesOnWithTheNext);
        DUE.sentence("behind one that meets a CAUSE at ACT e.", RunBoundsTest::goesOnAtE);
        DUE.sentence("An ACT that meets one changes nothing.", RunBoundsTest::aCauseChangesNothingWithin);
        DUE.sentence("It is over behind the last ACT,", RunBoundsTest::overBehindTheLast);
        DUE.sentence("(a RUN of no ACTS)", RunBoundsTest::overWithoutActs);
        DUE.sentence("and where it is to go on at an ACT that there is not:", RunBoundsTest::overAtNoActByJump);
        DUE.sentence("(WHILE as well as JUMP)", RunBoundsTest::overAtNoActByWhile);
        DUE.sentence("by its CAUSE, if that is by e.", RunBoundsTest::overByCause);
        DUE.sentence("(a CAUSE behind which it went on is not that by which it is over)", RunBoundsTest::wentOn);
        DUE.sentence("Each ACT that is begun is a STEP;", RunBoundsTest::eachBegunIsAStep);
        DUE.sentence("when 40 were begun, and one more would be, it is SPENT.", RunBoundsTest::spent);
        DUE.sentence("(40 were begun, and none more would be)", RunBoundsTest::fortyAndNoMore);
        DUE.sentence("(SPENT behind a CAUSE of step 40)", RunBoundsTest::spentBehindACause);
        DUE.sentence("(what a SPENT one did is done)", RunBoundsTest::spentOnesAreDone);
        DUE.end("RunBoundsTest");
    }

    private static RelayTrays going(int acts) {
        RelayTrays x = new RelayTrays();
        for (int i = 0; i < acts; i++) {
            x.step(GO, 0, 1, 0, 0);
        }
        return x;
    }

    /** Acts 0, 1, 2, .. write 1, 2, 4, .. to the point, so that it tells which were done. */
    private static RelayTrays telling(int acts) {
        RelayTrays x = new RelayTrays();
        for (int i = 0; i < acts; i++) {
            x.step(GO, 0, 1 << i, 0, 0);
        }
        return x;
    }

    private static void told(RelayTrays x, int begun, int where, int overByCause, int spent) {
        DUE.due("begun()", x.begun(), begun);
        DUE.due("where()", x.where(), where);
        DUE.due("count(3)", x.count(3), overByCause);
        DUE.due("count(4)", x.count(4), spent);
    }

    private static void beginsAtActNought() {
        RelayTrays x = telling(3);
        x.alter(1, JUMP, 0, 7, 0, 0);
        DUE.due("run()", x.run(), 2);
        DUE.due("point()", x.point(), 1);
        DUE.due("run() behind one that was over at act 1", x.run(), 2);
        DUE.due("point()", x.point(), 2);
        x.alter(1, JUMP, 0, 0, 0, 0);
        DUE.due("run() that is spent at act 1", x.run(), SPENT);
        DUE.due("point()", x.point(), 22);
        x.alter(1, JUMP, 0, 2, 0, 0);
        DUE.due("run() behind a spent one", x.run(), 3);
        DUE.due("point()", x.point(), 27);
        x.alter(1, TAKE, 0, 0, 0, -1);
        DUE.due("run() over by a cause", x.run(), NOTHING);
        DUE.due("run() behind one over by a cause", x.run(), NOTHING);
        DUE.due("point()", x.point(), 29);
    }

    private static void beginsWithAllAsItIs() {
        RelayTrays x = new RelayTrays();
        x.make(3, 5, 2);
        x.put(3, 1, 5, 40);
        x.give(1, 2);
        x.look(3, 1);
        x.step(SET, 0, 1, 0, 0);
        x.run();
        x.alter(0, ADD, 3, 0, 0, -1);
        DUE.due("run()", x.run(), 1);
        DUE.due("seen(), which no run changes", x.seen(), 40);
        DUE.due("hand()", x.hand(), 5);
        DUE.due("seen() of the hand", x.seen(), 42);
        DUE.due("run() once more", x.run(), 1);
        x.hand();
        DUE.due("seen() of the hand", x.seen(), 82);
        DUE.due("point()", x.point(), 1);
    }

    private static void goesOnWithTheNext() {
        for (int acts = 1; acts <= 30; acts++) {
            RelayTrays x = telling(acts);
            DUE.due("run() of " + acts, x.run(), acts);
            DUE.due("point()", x.point(), (1 << acts) - 1);
        }
        RelayTrays x = new RelayTrays();
        x.make(0, 5, 1);
        x.give(5, 1);
        int[] all = {TAKE, 1, LAY, COUNT, MAKE, PASS, CLEAR, GO, SET, DROP};
        for (int what : all) {
            x.step(what, what == PASS || what == CLEAR ? 1 : 0, 0, 5, -1);
        }
        DUE.due("run() of acts that meet none", x.run(), all.length);
        told(x, all.length, NONE, 0, 0);
    }

    private static void goesOnAtE() {
        for (int e = 1; e < 5; e++) {
            RelayTrays x = telling(5);
            x.alter(0, TAKE, 7, 0, 0, e);
            DUE.due("run() that goes on at " + e, x.run(), 6 - e);
            DUE.due("point()", x.point(), 32 - (1 << e));
            told(x, 6 - e, 0, 0, 0);
        }
        RelayTrays x = telling(4);
        x.alter(2, WHILE, 7, 3, 0, 0);
        DUE.due("run() that goes back to 0 for ever", x.run(), SPENT);
        DUE.due("point()", x.point(), 13 * 3 + 1);
        told(x, 40, 2, 0, 1);
        x.alter(2, WHILE, 7, 3, 0, 2);
        DUE.due("run() that goes on at the act itself", x.run(), SPENT);
        DUE.due("count(11)", x.count(11), 13 + 38);
        // the last act meets a cause, and there is an act e: it is not over there
        x.alter(2, GO, 0, 4, 0, 0);
        x.alter(3, TAKE, 7, 0, 0, 1);
        DUE.due("run() that goes on from the last act", x.run(), SPENT);
        told(x, 40, 3, 0, 3);
    }

    private static void aCauseChangesNothingWithin() {
        RelayTrays x = new RelayTrays();
        x.make(0, 1, 1);
        x.give(7, 5);
        x.step(LAY, 0, 0, 0, 1);
        x.step(TAKE, 0, 1, 0, 2);
        x.step(ADD, 0, 0, 0, 3);
        x.step(MAKE, 0, 13, 0, 4);
        x.step(MAKE, 0, -1, 0, 5);
        x.step(TAKE, 6, 0, 0, 6);
        Map<String, Long> want = State.of(x);
        x.look(0, 0);
        long seen = x.seen();
        DUE.due("run()", x.run(), NOTHING);
        want.put("seen()", seen);
        want.put("begun()", 6L);
        want.put("where()", 5L);
        want.put("count(2)", 1L);
        want.put("count(3)", 1L);
        want.put("count(11)", 1L);
        want.put("count(13)", 1L);
        want.put("count(14)", 2L);
        want.put("count(15)", 1L);
        want.put("count(16)", 1L);
        DUE.alike("run()", State.of(x), want);
    }

    private static void overBehindTheLast() {
        for (int acts : new int[] {1, 2, 39, 40}) {
            RelayTrays x = going(acts);
            DUE.due("run() of " + acts + " acts", x.run(), acts);
            DUE.due("point()", x.point(), acts);
            told(x, acts, NONE, 0, 0);
        }
        RelayTrays x = going(3);
        x.clear();
        x.step(GO, 0, 100, 0, 0);
        DUE.due("run() of one act, where three were", x.run(), 1);
        DUE.due("point()", x.point(), 100);
    }

    private static void overWithoutActs() {
        RelayTrays x = new RelayTrays();
        DUE.due("run()", x.run(), 0);
        told(x, 0, NONE, 0, 0);
        DUE.due("count(2)", x.count(2), 1);
        RelayTrays y = going(40);
        y.clear();
        DUE.due("run() behind clear()", y.run(), 0);
        DUE.due("point()", y.point(), 0);
    }

    private static void overAtNoActByJump() {
        for (int to : new int[] {3, 4, 39, 40, 41, -1, -3, MIN, MAX}) {
            RelayTrays x = telling(3);
            x.alter(1, JUMP, 0, to, 0, 0);
            DUE.due("run() with a JUMP to " + to, x.run(), 2);
            DUE.due("point()", x.point(), 1);
            told(x, 2, NONE, 0, 0);
        }
        RelayTrays x = telling(3);
        x.alter(1, JUMP, 0, 2, 0, 0);
        DUE.due("run() with a JUMP to the last act", x.run(), 3);
        DUE.due("point()", x.point(), 5);
        // behind clear() the room of THE ORDER has more acts than there are
        RelayTrays y = going(40);
        y.clear();
        y.step(JUMP, 0, 1, 0, 0);
        DUE.due("run() with a JUMP to an act that there was", y.run(), 1);
        DUE.due("point()", y.point(), 0);
    }

    private static void overAtNoActByWhile() {
        for (int to : new int[] {3, 4, 39, 40, 41, -1, -3, MIN, MAX}) {
            RelayTrays x = new RelayTrays();
            x.make(0, 4, 1);
            x.step(COUNT, 0, 0, 0, 0);
            x.step(WHILE, 0, to, 0, 0);
            x.step(GO, 0, 1, 0, 0);
            DUE.due("run() with a WHILE to " + to, x.run(), 2);
            DUE.due("point()", x.point(), 0);
            told(x, 2, NONE, 0, 0);
        }
    }

    private static void overByCause() {
        for (int e : new int[] {3, 4, 39, 40, 41, -1, -3, MIN, MAX}) {
            RelayTrays x = telling(3);
            x.alter(1, TAKE, 7, 0, 0, e);
            DUE.due("run() with e " + e, x.run(), NOTHING);
            DUE.due("point()", x.point(), 1);
            told(x, 2, 1, 1, 0);
            DUE.due("count(11)", x.count(11), 1);
        }
        RelayTrays x = telling(3);
        x.alter(1, TAKE, 7, 0, 0, 2);
        DUE.due("run() with e the last act", x.run(), 3);
        DUE.due("point()", x.point(), 5);
        told(x, 3, 1, 0, 0);
        x.alter(2, TAKE, 7, 0, 0, 3);
        DUE.due("run() with e behind the last act, at the last act", x.run(), NOTHING);
        told(x, 3, 2, 1, 0);
        RelayTrays y = going(40);
        y.clear();
        y.step(TAKE, 7, 0, 0, 1);
        DUE.due("run() with e an act that there was", y.run(), NOTHING);
        DUE.due("point()", y.point(), 0);
    }

    private static void wentOn() {
        RelayTrays x = new RelayTrays();
        x.make(0, 4, 1);
        x.step(TAKE, 7, 0, 0, 1);
        x.step(TAKE, 0, 1, 0, 2);
        DUE.due("run() over by the second cause", x.run(), PLACE);
        told(x, 2, 1, 1, 0);
        x.step(DROP, 0, 0, 0, 0);
        DUE.due("run() over behind the last act", x.run(), 3);
        told(x, 3, 1, 1, 0);
        x.alter(2, JUMP, 0, -1, 0, 0);
        DUE.due("run() over by a JUMP", x.run(), 3);
        told(x, 3, 1, 1, 0);
        DUE.due("count(11)", x.count(11), 3);
        DUE.due("count(13)", x.count(13), 3);
    }

    private static void eachBegunIsAStep() {
        RelayTrays x = new RelayTrays();
        x.make(0, 4, 3);
        x.step(GO, 0, 1, 0, 0);
        x.step(WHILE, 0, 0, 0, 0);
        DUE.due("run() of a round of two acts, three times", x.run(), 6);
        DUE.due("begun()", x.begun(), 6);
        x.clear();
        x.step(TAKE, 7, 0, 0, 1);
        x.step(TAKE, 7, 0, 0, 2);
        DUE.due("run() of two acts that meet causes", x.run(), NOTHING);
        DUE.due("begun(), those that meet causes too", x.begun(), 2);
    }

    /** A run of some steps ahead, and of nine rounds of four acts: 36 steps more, if it is not spent. */
    private static RelayTrays nineRounds(int ahead) {
        RelayTrays x = new RelayTrays();
        x.make(0, 4, 12);
        x.step(SET, 0, 3, 0, 0);
        for (int i = 1; i < ahead; i++) {
            x.step(DROP, 0, 0, 0, 0);
        }
        x.step(GO, 0, 1, 0, 0);
        x.step(DROP, 0, 0, 0, 0);
        x.step(DROP, 0, 0, 0, 0);
        x.step(WHILE, 0, ahead, 0, 0);
        return x;
    }

    private static void spent() {
        for (int ahead = 1; ahead <= 7; ahead++) {
            RelayTrays x = nineRounds(ahead);
            int steps = ahead + 36;
            boolean spent = steps > 40;
            DUE.due("run() of " + steps + " steps", x.run(), spent ? SPENT : steps);
            DUE.due("point()", x.point(), 12);
            told(x, spent ? 40 : steps, NONE, 0, spent ? 1 : 0);
            DUE.due("count(2)", x.count(2), 1);
        }
        RelayTrays x = going(40);
        x.alter(39, JUMP, 0, 39, 0, 0);
        DUE.due("run() that goes on at act 39 behind 40 steps", x.run(), SPENT);
        x.alter(39, JUMP, 0, 0, 0, 0);
        DUE.due("run() that goes on at act 0 behind 40 steps", x.run(), SPENT);
        told(x, 40, NONE, 0, 2);
        DUE.due("point()", x.point(), 78);
    }

    private static void fortyAndNoMore() {
        RelayTrays x = going(40);
        DUE.due("run() over behind the last act", x.run(), 40);
        x.alter(39, JUMP, 0, 40, 0, 0);
        DUE.due("run() over by a JUMP to act 40", x.run(), 40);
        x.alter(39, JUMP, 0, -1, 0, 0);
        DUE.due("run() over by a JUMP to act -1", x.run(), 40);
        told(x, 40, NONE, 0, 0);
        x.alter(39, TAKE, 7, 0, 0, 40);
        DUE.due("run() over by a cause, e 40", x.run(), NOTHING);
        x.alter(39, TAKE, 7, 0, 0, -1);
        DUE.due("run() over by a cause, e -1", x.run(), NOTHING);
        told(x, 40, 39, 2, 0);
    }

    private static void spentBehindACause() {
        RelayTrays x = going(40);
        int runs = 0;
        for (int e : new int[] {0, 38, 39}) {
            x.alter(39, TAKE, 7, 0, 0, e);
            DUE.due("run() with e " + e + " at step 40", x.run(), SPENT);
            runs++;
            told(x, 40, 39, 0, runs);
            DUE.due("count(11)", x.count(11), runs);
        }
    }

    private static void spentOnesAreDone() {
        RelayTrays x = new RelayTrays();
        x.give(5, 9);
        x.step(MAKE, 1, 1, 5, 0);
        x.step(LAY, 1, 0, 0, 0);
        x.step(PASS, 2, 1, 0, 0);
        x.step(CLEAR, 1, 0, 0, 0);
        x.step(GO, 0, 0, 0, 0);
        x.step(JUMP, 0, 4, 0, 0);
        DUE.due("run()", x.run(), SPENT);
        DUE.due("kind(1)", x.kind(1), NONE);
        DUE.due("kind(2)", x.kind(2), 5);
        x.look(2, 0);
        DUE.due("seen()", x.seen(), 9);
        x.alter(5, JUMP, 0, 6, 0, 0);
        DUE.due("run() behind it, with 40 steps of its own", x.run(), 6);
        told(x, 6, NONE, 0, 1);
    }
}
