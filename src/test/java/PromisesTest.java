import java.util.LinkedHashMap;
import java.util.Map;
import java.util.function.Consumer;

/** "Promise 1" to "Promise 18", sentence by sentence; what is BAD or FULL is asked in RefusedTest. */
public final class PromisesTest {
    private static final Due DUE = new Due();
    private static final int SPENT = -3, NONE = -4;
    private static final int NOTHING = 1, PLACE = 3, MISFIT = 4, SIZE = 5, WIDE = 6;
    private static final int MIN = Integer.MIN_VALUE, MAX = Integer.MAX_VALUE;

    private static final int TAKE = 0, READ = 1, LAY = 2, COUNT = 3, MAKE = 4, PASS = 5, CLEAR = 6;
    private static final int GO = 7, SET = 8, WHILE = 9, ADD = 10, SWAP = 11, JUMP = 12, DROP = 13;

    public static void main(String[] args) {
        DUE.sentence("1: All TRAYS have NOTHING, THE HAND none; no ACTS.", PromisesTest::newObject);
        DUE.sentence("1: (each object by itself)", PromisesTest::objectsShareNothing);
        DUE.sentence("2: make: As MAKE: 1", PromisesTest::make);
        DUE.sentence("2: make: -10 less the CAUSE", PromisesTest::makeMeets);
        DUE.sentence("3: put: A number of a KIND with these BITS comes to PLACE i: 1", PromisesTest::put);
        DUE.sentence("3: put: -10 less the CAUSE: NOTHING, PLACE, MISFIT", PromisesTest::putMeets);
        DUE.sentence("4: look: The KIND of the number at PLACE i, and it is SEEN", PromisesTest::look);
        DUE.sentence("4: look: -10 less the CAUSE: NOTHING, PLACE", PromisesTest::lookMeets);
        DUE.sentence("5: give: the KIND that it had", PromisesTest::give);
        DUE.sentence("5: give: NONE", PromisesTest::giveToNone);
        DUE.sentence("6: hand: The KIND of what THE HAND has, and that is SEEN", PromisesTest::hand);
        DUE.sentence("6: hand: NONE", PromisesTest::handOfNone);
        DUE.sentence("7: seen: BITS of what was SEEN latest, as its KIND.", PromisesTest::seen);
        DUE.sentence("7: seen: 0 ahead of one.", PromisesTest::seenAheadOfOne);
        DUE.sentence("8: kind: NONE: NOTHING.", PromisesTest::kind);
        DUE.sentence("9: size: NONE: NOTHING.", PromisesTest::size);
        DUE.sentence("10: same: Whether one ROW lies on two TRAYS", PromisesTest::same);
        DUE.sentence("10: same: or NOTHING on both", PromisesTest::sameNothing);
        DUE.sentence("11: step: An ACT comes behind THE ORDER: how many.", PromisesTest::step);
        DUE.sentence("12: alter: becomes another one: what was done by it.", PromisesTest::alter);
        DUE.sentence("12: alter: (the whole ACT, and no other)", PromisesTest::alterOfTheWholeAct);
        DUE.sentence("13: clear: THE ORDER is empty: how many ACTS it had.", PromisesTest::clear);
        DUE.sentence("14: run: how many STEPS were begun", PromisesTest::runSteps);
        DUE.sentence("14: run: -10 less the CAUSE by which it is over", PromisesTest::runCauses);
        DUE.sentence("14: run: SPENT.", PromisesTest::runSpent);
        DUE.sentence("15: point: THE POINT.", PromisesTest::point);
        DUE.sentence("16: begun: How many STEPS the latest RUN began", PromisesTest::begun);
        DUE.sentence("16: begun: 0 ahead of one.", PromisesTest::begunAheadOfOne);
        DUE.sentence("17: where: The number of the ACT that met the latest CAUSE of a RUN", PromisesTest::where);
        DUE.sentence("17: where: (as it was then)", PromisesTest::whereAsItWasThen);
        DUE.sentence("17: where: NONE ahead of one.", PromisesTest::whereAheadOfOne);
        DUE.sentence("18: count: 0 ROWS that were made", PromisesTest::countRows);
        DUE.sentence("18: count: 1 ACTS", PromisesTest::countActs);
        DUE.sentence("18: count: 2 RUNS, 3 .. over by a CAUSE, 4 SPENT ones", PromisesTest::countRuns);
        DUE.sentence("18: count: 10 and c: how often CAUSE c was met, by ACTS", PromisesTest::countCausesOfActs);
        DUE.sentence("18: count: .. make(), put(), look()", PromisesTest::countCausesOfCalls);
        DUE.end("PromisesTest");
    }

    private static int act(RelayTrays x, int what, int tray, int a, int kind) {
        x.clear();
        x.step(what, tray, a, kind, -1);
        return x.run();
    }

    private static void thereIs(RelayTrays x, int tray, int i, int kind, long bits) {
        DUE.due("look(" + tray + ", " + i + ")", x.look(tray, i), kind);
        DUE.due("seen() of " + tray + ", " + i, x.seen(), bits);
    }

    /** Chars 7 and 65535 on tray 2, no places on tray 3, nothing on the others; a hand, a point, an order. */
    private static Consumer<RelayTrays> inUse() {
        return x -> {
            x.make(2, 3, 2);
            x.put(2, 0, 3, 7);
            x.put(2, 1, 3, 65535);
            x.make(3, 7, 0);
            x.give(4, -9);
            x.look(2, 1);
            x.step(SET, 0, 1, 0, 0);
            x.step(TAKE, 6, 0, 0, -1);
            x.run();
        };
    }

    private static RelayTrays one() {
        RelayTrays x = new RelayTrays();
        inUse().accept(x);
        return x;
    }

    // ---- 1

    private static void newObject() {
        Map<String, Long> want = new LinkedHashMap<>();
        for (String zero : new String[] {"seen()", "point()", "begun()"}) {
            want.put(zero, 0L);
        }
        want.put("hand()", (long) NONE);
        want.put("where()", (long) NONE);
        for (int tray = 0; tray < 8; tray++) {
            want.put("kind(" + tray + ")", (long) NONE);
            want.put("size(" + tray + ")", (long) NONE);
            for (int other = 0; other < tray; other++) {
                want.put("same(" + tray + ", " + other + ")", 1L);
            }
        }
        for (int what : new int[] {0, 1, 2, 3, 4, 11, 12, 13, 14, 15, 16}) {
            want.put(State.count(what), 0L);
        }
        DUE.alike("new RelayTrays()", State.of(new RelayTrays()), want);
        DUE.due("clear() of a new object", new RelayTrays().clear(), 0);
        DUE.due("run() of a new object", new RelayTrays().run(), 0);
        DUE.due("give() to a new object", new RelayTrays().give(0, 0), NONE);
        DUE.due("look() at a new object", new RelayTrays().look(0, 0), -10 - NOTHING);
        DUE.due("put() on a new object", new RelayTrays().put(7, 0, 4, 1), -10 - NOTHING);
    }

    private static void objectsShareNothing() {
        RelayTrays x = new RelayTrays();
        Map<String, Long> before = State.of(x);
        RelayTrays other = one();
        other.run();
        DUE.alike("another object is used", State.of(x), before);
    }

    // ---- 2 to 4

    private static void make() {
        for (int tray = 0; tray < 8; tray++) {
            for (int kind = 0; kind < 8; kind++) {
                RelayTrays x = one();
                DUE.due("make(" + tray + ", " + kind + ", 12)", x.make(tray, kind, 12), 1);
                DUE.due("kind(" + tray + ")", x.kind(tray), kind);
                DUE.due("size(" + tray + ")", x.size(tray), 12);
                for (int i = 0; i < 12; i++) {
                    thereIs(x, tray, i, kind, 0);
                }
                DUE.due("rows made", x.count(0), 3);
                DUE.due("hand()", x.hand(), 4);
                DUE.due("seen() of the hand", x.seen(), -9);
                DUE.due("point()", x.point(), 1);
            }
        }
    }

    private static void makeMeets() {
        Twins twins = new Twins(DUE, inUse());
        for (int tray : new int[] {0, 2, 3, 7}) {
            for (int n : new int[] {-1, MIN}) {
                twins.callMeets("make(" + tray + ", 4, " + n + ")", x -> x.make(tray, 4, n), SIZE);
            }
            for (int n : new int[] {13, MAX}) {
                twins.callMeets("make(" + tray + ", 4, " + n + ")", x -> x.make(tray, 4, n), WIDE);
            }
        }
    }

    private static void put() {
        RelayTrays x = one();
        DUE.due("put(2, 0, 3, 65536 + 5), with a point and a hand that are not asked", x.put(2, 0, 3, 65541), 1);
        thereIs(x, 2, 0, 3, 5);
        thereIs(x, 2, 1, 3, 65535);
        DUE.due("hand()", x.hand(), 4);
        DUE.due("seen() of the hand", x.seen(), -9);
        x.make(4, 6, 12);
        DUE.due("put at the last of 12", x.put(4, 11, 1, 0x1ff), 1);
        thereIs(x, 4, 11, 6, (int) 0xbf800000L);
        act(x, DROP, 0, 0, 0);
        DUE.due("put with a bare hand", x.put(4, 0, 3, 1), 1);
        thereIs(x, 4, 0, 6, 0x3f800000L);
        DUE.due("hand()", x.hand(), NONE);
    }

    private static void putMeets() {
        Twins twins = new Twins(DUE, inUse());
        for (int i : new int[] {0, -1, MAX}) {
            for (int kind = 0; kind < 8; kind++) {
                int k = kind;
                twins.callMeets("put(1, " + i + ", " + k + ", 1)", x -> x.put(1, i, k, 1), NOTHING);
            }
        }
        for (int i : new int[] {-1, 2, 3, 12, MIN, MAX}) {
            twins.callMeets("put(2, " + i + ", 3, 1)", x -> x.put(2, i, 3, 1), PLACE);
            twins.callMeets("put(2, " + i + ", 1, 1)", x -> x.put(2, i, 1, 1), PLACE);
        }
        twins.callMeets("put(3, 0, 7, 1)", x -> x.put(3, 0, 7, 1), PLACE);
        twins.callMeets("put(3, 0, 0, 1)", x -> x.put(3, 0, 0, 1), PLACE);
        for (int kind : new int[] {0, 1, 2, 4, 5, 6, 7}) {
            twins.callMeets("put(2, 0, " + kind + ", 1)", x -> x.put(2, 0, kind, 1), MISFIT);
            twins.callMeets("put(2, 1, " + kind + ", 1)", x -> x.put(2, 1, kind, 1), MISFIT);
        }
    }

    private static void look() {
        RelayTrays x = one();
        DUE.due("look(2, 0), with a point that is not asked", x.look(2, 0), 3);
        DUE.due("seen()", x.seen(), 7);
        DUE.due("look(2, 1)", x.look(2, 1), 3);
        DUE.due("seen()", x.seen(), 65535);
        for (int kind = 0; kind < 8; kind++) {
            x.make(4, kind, 12);
            x.put(4, 11, kind, 1);
            thereIs(x, 4, 11, kind, 1);
            thereIs(x, 4, 10, kind, 0);
        }
    }

    private static void lookMeets() {
        Twins twins = new Twins(DUE, inUse());
        for (int i : new int[] {0, -1, MAX}) {
            twins.callMeets("look(1, " + i + ")", x -> x.look(1, i), NOTHING);
        }
        for (int i : new int[] {-1, 2, 3, 12, MIN, MAX}) {
            twins.callMeets("look(2, " + i + ")", x -> x.look(2, i), PLACE);
        }
        twins.callMeets("look(3, 0)", x -> x.look(3, 0), PLACE);
        twins.callMeets("look(3, -1)", x -> x.look(3, -1), PLACE);
    }

    // ---- 5 to 7

    private static void give() {
        for (int before = 0; before < 8; before++) {
            for (int kind = 0; kind < 8; kind++) {
                RelayTrays x = new RelayTrays();
                x.give(before, 0);
                DUE.due("give(" + kind + ", 1) behind kind " + before, x.give(kind, 1), before);
                DUE.due("seen(), which give() does not change", x.seen(), 0);
                DUE.due("hand()", x.hand(), kind);
                DUE.due("seen() of the hand", x.seen(), 1);
            }
        }
        RelayTrays x = one();
        act(x, COUNT, 2, 0, 0);
        DUE.due("give() behind COUNT", x.give(1, 1), 4);
        act(x, ADD, 2, 0, 0);
        DUE.due("give() behind ADD", x.give(3, 1), 5);
        act(x, READ, 2, 0, 7);
        DUE.due("give() behind READ as doubles", x.give(3, 1), 7);
    }

    private static void giveToNone() {
        RelayTrays x = new RelayTrays();
        DUE.due("give(0, 0)", x.give(0, 0), NONE);
        act(x, DROP, 0, 0, 0);
        DUE.due("give() behind DROP", x.give(7, 0), NONE);
        DUE.due("give() behind it", x.give(7, 0), 7);
    }

    private static void hand() {
        RelayTrays x = one();
        DUE.due("seen() ahead of hand()", x.seen(), 65535);
        DUE.due("hand()", x.hand(), 4);
        DUE.due("seen()", x.seen(), -9);
        DUE.due("hand(), which it has still", x.hand(), 4);
    }

    private static void handOfNone() {
        RelayTrays x = one();
        act(x, DROP, 0, 0, 0);
        DUE.due("hand()", x.hand(), NONE);
        DUE.due("seen(), as it was", x.seen(), 65535);
    }

    private static void seen() {
        RelayTrays x = one();
        x.give(1, 255);
        x.hand();
        DUE.due("seen() of a byte", x.seen(), -1);
        x.look(2, 1);
        DUE.due("seen() of a char, seen later", x.seen(), 65535);
        x.put(2, 1, 3, 4);
        DUE.due("seen() behind put(), as it was seen", x.seen(), 65535);
        x.hand();
        DUE.due("seen() of the hand, seen later", x.seen(), -1);
        x.give(6, 0xff800000L);
        DUE.due("seen() behind give(), as it was seen", x.seen(), -1);
        act(x, TAKE, 2, -1, 0);
        DUE.due("seen() behind TAKE, by which nothing is seen", x.seen(), -1);
        x.kind(2);
        x.size(2);
        x.same(2, 3);
        DUE.due("seen() behind kind(), size(), same()", x.seen(), -1);
        DUE.due("seen() once more", x.seen(), -1);
    }

    private static void seenAheadOfOne() {
        RelayTrays x = new RelayTrays();
        DUE.due("seen()", x.seen(), 0);
        x.make(0, 4, 1);
        x.put(0, 0, 4, 5);
        x.give(4, 6);
        x.look(0, 1);
        x.look(1, 0);
        x.look(8, 0);
        DUE.due("seen() behind looks that saw nothing", x.seen(), 0);
        act(x, DROP, 0, 0, 0);
        x.hand();
        DUE.due("seen() behind a bare hand()", x.seen(), 0);
        x.look(0, 0);
        DUE.due("seen()", x.seen(), 5);
    }

    // ---- 8 to 10

    private static void kind() {
        for (int kind = 0; kind < 8; kind++) {
            for (int n : new int[] {0, 12}) {
                RelayTrays x = new RelayTrays();
                DUE.due("kind() ahead of make()", x.kind(kind), NONE);
                x.make(kind, kind, n);
                DUE.due("kind() of " + n + " places", x.kind(kind), kind);
                act(x, CLEAR, kind, 0, 0);
                DUE.due("kind() behind CLEAR", x.kind(kind), NONE);
                DUE.due("NOTHING, which kind() does not meet", x.count(10 + NOTHING), 0);
            }
        }
    }

    private static void size() {
        for (int n = 0; n <= 12; n++) {
            RelayTrays x = new RelayTrays();
            DUE.due("size() ahead of make()", x.size(5), NONE);
            x.make(5, 0, n);
            DUE.due("size() of " + n + " places", x.size(5), n);
            act(x, PASS, 5, 6, 0);
            DUE.due("size() behind PASS of nothing", x.size(5), NONE);
            DUE.due("NOTHING, which size() does not meet", x.count(10 + NOTHING), 0);
        }
    }

    private static void same() {
        RelayTrays x = new RelayTrays();
        x.make(0, 4, 2);
        x.make(1, 4, 2);
        DUE.due("same() of two rows that are alike", x.same(0, 1), 0);
        DUE.due("same() of a tray and itself", x.same(0, 0), 1);
        act(x, PASS, 1, 0, 0);
        DUE.due("same() behind PASS", x.same(0, 1), 1);
        DUE.due("same() the other way", x.same(1, 0), 1);
        x.make(0, 4, 2);
        DUE.due("same() behind make()", x.same(0, 1), 0);
        x.make(2, 4, 0);
        x.make(3, 4, 0);
        DUE.due("same() of two rows without places", x.same(2, 3), 0);
    }

    private static void sameNothing() {
        RelayTrays x = new RelayTrays();
        for (int tray = 0; tray < 8; tray++) {
            for (int other = 0; other < 8; other++) {
                DUE.due("same(" + tray + ", " + other + ") of a new object", x.same(tray, other), 1);
            }
        }
        x.make(3, 4, 0);
        DUE.due("same() of a row without places, and nothing", x.same(3, 4), 0);
        DUE.due("same() of nothing, and a row without places", x.same(4, 3), 0);
        act(x, CLEAR, 3, 0, 0);
        DUE.due("same() behind CLEAR", x.same(3, 4), 1);
    }

    // ---- 11 to 13

    private static void step() {
        RelayTrays x = new RelayTrays();
        for (int n = 1; n <= 40; n++) {
            int edge = n % 2 == 0 ? MIN : MAX;
            DUE.due("step() number " + n, x.step(n % 14, n % 8, edge, n % 8, edge), n);
        }
        x.clear();
        DUE.due("step() behind clear()", x.step(GO, 0, 1, 0, 0), 1);
        DUE.due("step() behind it", x.step(SET, 0, 5, 0, 0), 2);
        DUE.due("point(), which step() does not change", x.point(), 0);
        DUE.due("run()", x.run(), 2);
        DUE.due("point()", x.point(), 5);
    }

    private static void alter() {
        for (int before = TAKE; before <= DROP; before++) {
            for (int behind = TAKE; behind <= DROP; behind++) {
                RelayTrays x = new RelayTrays();
                x.step(before, 0, 0, 0, 0);
                DUE.due("alter() from " + before + " to " + behind, x.alter(0, behind, 7, 1, 7, 1), before);
                DUE.due("alter() back", x.alter(0, before, 0, 0, 0, 0), behind);
                DUE.due("count(1)", x.count(1), 1);
            }
        }
        RelayTrays x = new RelayTrays();
        for (int i = 0; i < 40; i++) {
            x.step(i % 14, 0, 0, 0, 0);
        }
        DUE.due("alter() of the first of 40", x.alter(0, DROP, 0, 0, 0, 0), 0);
        DUE.due("alter() of the last of 40", x.alter(39, DROP, 0, 0, 0, 0), 11);
    }

    private static void alterOfTheWholeAct() {
        RelayTrays x = new RelayTrays();
        x.make(6, 1, 3);
        x.put(6, 2, 1, -2);
        x.step(GO, 0, 1, 0, 0);
        x.step(GO, 0, 10, 0, 0);
        x.step(GO, 0, 100, 0, 0);
        DUE.due("alter()", x.alter(1, READ, 6, 1, 5, 0), GO);
        DUE.due("run()", x.run(), 3);
        DUE.due("hand()", x.hand(), 5);
        DUE.due("seen()", x.seen(), -2);
        DUE.due("point()", x.point(), 101);
        DUE.due("alter() of e", x.alter(1, READ, 5, 0, 5, -7), READ);
        DUE.due("run()", x.run(), -10 - NOTHING);
        DUE.due("point()", x.point(), 102);
        DUE.due("alter() of e", x.alter(1, READ, 5, 0, 5, 2), READ);
        DUE.due("run()", x.run(), 3);
        DUE.due("point()", x.point(), 203);
        DUE.due("begun(), which alter() does not change", x.begun(), 3);
    }

    private static void clear() {
        for (int n : new int[] {0, 1, 39, 40}) {
            RelayTrays x = new RelayTrays();
            for (int i = 0; i < n; i++) {
                x.step(GO, 0, 1, 0, 0);
            }
            DUE.due("clear() of " + n, x.clear(), n);
            DUE.due("clear() once more", x.clear(), 0);
            DUE.due("run()", x.run(), 0);
            DUE.due("point()", x.point(), 0);
        }
        RelayTrays x = one();
        RelayTrays other = one();
        DUE.due("clear()", x.clear(), 2);
        Map<String, Long> want = State.of(other);
        want.put("count(1)", 0L);
        DUE.alike("clear()", State.of(x), want);
    }

    // ---- 14 to 17

    private static void runSteps() {
        for (int n : new int[] {0, 1, 2, 39, 40}) {
            RelayTrays x = new RelayTrays();
            for (int i = 0; i < n; i++) {
                x.step(TAKE, 7, 0, 0, i + 1);
            }
            if (n > 0) {
                x.alter(n - 1, DROP, 0, 0, 0, 0);
            }
            DUE.due("run() of " + n + " steps", x.run(), n);
        }
    }

    private static void runCauses() {
        RelayTrays x = new RelayTrays();
        x.make(0, 6, 1);
        DUE.due("run() over by NOTHING", act(x, TAKE, 7, 0, 0), -11);
        DUE.due("run() over by BARE", act(x, LAY, 0, 0, 0), -12);
        DUE.due("run() over by PLACE", act(x, TAKE, 0, 1, 0), -13);
        DUE.due("run() over by MISFIT", act(x, READ, 0, 0, 4), -14);
        DUE.due("run() over by SIZE", act(x, MAKE, 0, -1, 0), -15);
        DUE.due("run() over by WIDE", act(x, MAKE, 0, 13, 0), -16);
        DUE.due("count(3)", x.count(3), 6);
    }

    private static void runSpent() {
        RelayTrays x = new RelayTrays();
        x.step(JUMP, 0, 0, 0, 0);
        DUE.due("run()", x.run(), SPENT);
        x.alter(0, WHILE, 7, 5, 0, 0);
        DUE.due("run() that meets a cause at every step", x.run(), SPENT);
        DUE.due("count(11)", x.count(11), 40);
        x.make(7, 0, 1);
        x.alter(0, WHILE, 7, 0, 0, 5);
        DUE.due("run() of a WHILE for ever", x.run(), SPENT);
        DUE.due("count(4)", x.count(4), 3);
        DUE.due("count(3)", x.count(3), 0);
    }

    private static void point() {
        RelayTrays x = one();
        DUE.due("point() behind a run over by a cause", x.point(), 1);
        x.clear();
        DUE.due("point() behind clear()", x.point(), 1);
        x.run();
        DUE.due("point() behind a run of no acts", x.point(), 1);
        act(x, GO, 0, MAX, 0);
        DUE.due("point() that went round", x.point(), MIN);
    }

    private static void begun() {
        RelayTrays x = one();
        DUE.due("begun() of a run over by a cause", x.begun(), 2);
        x.alter(1, JUMP, 0, 1, 0, 0);
        DUE.due("begun() ahead of the next run", x.begun(), 2);
        x.run();
        DUE.due("begun() of a spent run", x.begun(), 40);
        x.alter(1, JUMP, 0, 2, 0, 0);
        x.run();
        DUE.due("begun() of a run over by a jump", x.begun(), 2);
        x.clear();
        x.make(0, 0, 0);
        DUE.due("begun() behind clear()", x.begun(), 2);
        x.run();
        DUE.due("begun() of a run of no acts", x.begun(), 0);
    }

    private static void begunAheadOfOne() {
        RelayTrays x = new RelayTrays();
        DUE.due("begun()", x.begun(), 0);
        x.make(0, 4, -1);
        x.step(GO, 0, 1, 0, 0);
        DUE.due("begun() behind calls that are no run", x.begun(), 0);
    }

    private static void where() {
        RelayTrays x = new RelayTrays();
        for (int i = 0; i < 40; i++) {
            x.step(TAKE, 7, 0, 0, -1);
        }
        for (int number = 0; number < 40; number++) {
            DUE.due("run()", x.run(), -10 - NOTHING);
            DUE.due("where()", x.where(), number);
            x.alter(number, DROP, 0, 0, 0, 0);
        }
        DUE.due("run() that meets none", x.run(), 40);
        DUE.due("where() of the latest that was met", x.where(), 39);
        x.alter(5, TAKE, 7, 0, 0, 9);
        x.alter(9, WHILE, 7, 0, 0, 20);
        DUE.due("run() that goes on behind two", x.run(), 27);
        DUE.due("where() of the later one", x.where(), 9);
        x.make(0, 0, -1);
        x.put(7, 0, 0, 0);
        x.look(7, 0);
        DUE.due("where() behind causes of no run", x.where(), 9);
    }

    private static void whereAsItWasThen() {
        RelayTrays x = one();
        DUE.due("where()", x.where(), 1);
        x.alter(1, DROP, 0, 0, 0, 0);
        DUE.due("where() behind alter()", x.where(), 1);
        x.run();
        DUE.due("where() behind a run that met none", x.where(), 1);
        x.clear();
        DUE.due("where() behind clear()", x.where(), 1);
        x.run();
        DUE.due("where() behind a run of no acts", x.where(), 1);
        x.step(SWAP, 7, 0, 0, -1);
        DUE.due("where() behind step()", x.where(), 1);
        x.run();
        DUE.due("where() behind the next cause", x.where(), 0);
    }

    private static void whereAheadOfOne() {
        RelayTrays x = new RelayTrays();
        DUE.due("where()", x.where(), NONE);
        x.make(0, 0, 13);
        x.put(1, 0, 0, 0);
        x.look(1, 0);
        DUE.due("where() behind causes of no run", x.where(), NONE);
        x.step(JUMP, 0, -1, 0, 0);
        x.run();
        DUE.due("where() behind a run over at no act, by no cause", x.where(), NONE);
        x.alter(0, JUMP, 0, 0, 0, 0);
        x.run();
        DUE.due("where() behind a spent run", x.where(), NONE);
    }

    // ---- 18

    private static void countRows() {
        RelayTrays x = new RelayTrays();
        x.make(0, 4, 0);
        x.make(0, 4, 12);
        act(x, MAKE, 0, 1, 4);
        DUE.due("count(0)", x.count(0), 3);
        x.make(0, 4, 13);
        x.make(0, 4, -1);
        x.make(8, 4, 1);
        act(x, MAKE, 0, 13, 4);
        DUE.due("count(0) behind rows that are not", x.count(0), 3);
        act(x, CLEAR, 0, 0, 0);
        act(x, PASS, 1, 0, 0);
        DUE.due("count(0) behind CLEAR and PASS", x.count(0), 3);
    }

    private static void countActs() {
        RelayTrays x = new RelayTrays();
        x.step(GO, 0, 1, 0, 0);
        x.step(GO, 0, 1, 0, 0);
        x.step(14, 0, 1, 0, 0);
        DUE.due("count(1)", x.count(1), 2);
        x.run();
        x.alter(0, SET, 0, 0, 0, 0);
        DUE.due("count(1) behind run() and alter()", x.count(1), 2);
        x.clear();
        DUE.due("count(1) behind clear()", x.count(1), 0);
    }

    private static void countRuns() {
        RelayTrays x = new RelayTrays();
        runs(x, 0, 0, 0);
        x.run();
        runs(x, 1, 0, 0);
        x.step(TAKE, 7, 0, 0, 1);
        x.run();
        runs(x, 2, 1, 0);
        x.step(DROP, 0, 0, 0, 0);
        x.run();
        runs(x, 3, 1, 0);
        x.alter(1, JUMP, 0, 0, 0, 0);
        x.run();
        runs(x, 4, 1, 1);
        x.alter(1, JUMP, 0, 2, 0, 0);
        x.run();
        runs(x, 5, 1, 1);
        x.make(0, 0, -1);
        runs(x, 5, 1, 1);
    }

    private static void runs(RelayTrays x, int runs, int overByCause, int spent) {
        DUE.due("count(2)", x.count(2), runs);
        DUE.due("count(3)", x.count(3), overByCause);
        DUE.due("count(4)", x.count(4), spent);
    }

    private static void met(RelayTrays x, int... due) {
        for (int cause = 1; cause <= 6; cause++) {
            DUE.due("count(" + (10 + cause) + ")", x.count(10 + cause), due[cause - 1]);
        }
    }

    private static void countCausesOfActs() {
        RelayTrays x = new RelayTrays();
        x.make(0, 6, 1);
        met(x, 0, 0, 0, 0, 0, 0);
        act(x, COUNT, 7, 0, 0);
        met(x, 1, 0, 0, 0, 0, 0);
        act(x, ADD, 7, 0, 0);
        met(x, 1, 1, 0, 0, 0, 0);
        act(x, SWAP, 0, -1, 0);
        met(x, 1, 1, 1, 0, 0, 0);
        act(x, READ, 0, 0, 5);
        met(x, 1, 1, 1, 1, 0, 0);
        act(x, MAKE, 0, -1, 0);
        met(x, 1, 1, 1, 1, 1, 0);
        act(x, MAKE, 0, 13, 0);
        met(x, 1, 1, 1, 1, 1, 1);
        x.clear();
        x.step(SWAP, 0, 1, 0, 1);
        x.step(LAY, 0, 0, 0, 0);
        DUE.due("run() that meets two causes by turns", x.run(), SPENT);
        met(x, 1, 21, 21, 1, 1, 1);
    }

    private static void countCausesOfCalls() {
        RelayTrays x = new RelayTrays();
        x.make(0, 6, 1);
        x.put(7, 0, 0, 0);
        met(x, 1, 0, 0, 0, 0, 0);
        x.look(7, 0);
        met(x, 2, 0, 0, 0, 0, 0);
        x.put(0, 1, 6, 0);
        met(x, 2, 0, 1, 0, 0, 0);
        x.look(0, 1);
        met(x, 2, 0, 2, 0, 0, 0);
        x.put(0, 0, 7, 0);
        met(x, 2, 0, 2, 1, 0, 0);
        x.make(0, 0, -1);
        met(x, 2, 0, 2, 1, 1, 0);
        x.make(0, 0, 13);
        met(x, 2, 0, 2, 1, 1, 1);
        x.kind(7);
        x.size(7);
        x.hand();
        x.put(0, 0, 8, 0);
        met(x, 2, 0, 2, 1, 1, 1);
    }
}
