import java.util.List;
import java.util.function.Consumer;
import java.util.function.ToLongFunction;

/** "BAD: a number names nothing; FULL: as told: both ahead of all CAUSES, they change nothing." */
public final class RefusedTest {
    private static final Due DUE = new Due();
    private static final int BAD = -1, FULL = -2;
    private static final int MIN = Integer.MIN_VALUE, MAX = Integer.MAX_VALUE;

    private static final int TAKE = 0, MAKE = 4, GO = 7, SET = 8, WHILE = 9, JUMP = 12, DROP = 13;

    private static final int[] NO_TRAYS_NOR_KINDS = {-1, 8, 9, -8, 16, MIN, MAX};
    private static final int[] NO_ACTS_TO_DO = {-1, 14, 15, -14, MIN, MAX};
    private static final int[] NO_COUNTS = {-1, 5, 6, 7, 8, 9, 10, 17, 18, -11, -16, MIN, MAX};

    /** Objects of each sort that a refused call must leave as they are. */
    private static final List<Consumer<RelayTrays>> USED = List.of(
        RefusedTest::isNew, RefusedTest::isInUse, RefusedTest::isUsedUp);

    public static void main(String[] args) {
        DUE.sentence("Promise 2: make: BAD: TRAY, KIND.", RefusedTest::make);
        DUE.sentence("Promise 3: put: BAD: TRAY, KIND.", RefusedTest::put);
        DUE.sentence("Promise 4: look: BAD: TRAY.", RefusedTest::look);
        DUE.sentence("Promise 5: give: BAD: KIND.", RefusedTest::give);
        DUE.sentence("Promise 8: kind: BAD.", RefusedTest::kind);
        DUE.sentence("Promise 9: size: BAD.", RefusedTest::size);
        DUE.sentence("Promise 10: same: BAD.", RefusedTest::same);
        DUE.sentence("Promise 11: step: BAD: what is done, TRAY, KIND", RefusedTest::step);
        DUE.sentence("Promise 11: step: FULL.", RefusedTest::stepIsFull);
        DUE.sentence("Promise 12: alter: ACT i (that there is)", RefusedTest::alterOfNoAct);
        DUE.sentence("Promise 12: alter: BAD: also as step().", RefusedTest::alter);
        DUE.sentence("Promise 18: count: BAD.", RefusedTest::count);
        DUE.sentence("both ahead of all CAUSES", RefusedTest::aheadOfCauses);
        DUE.sentence("(the lowest and the highest numbers that name something)", RefusedTest::named);
        DUE.end("RefusedTest");
    }

    // ---- the objects

    /** Nothing was asked of it yet. */
    private static void isNew(RelayTrays x) {
    }

    /** A run of its order tells each act by the point, and is over by a cause. */
    private static void isInUse(RelayTrays x) {
        for (int tray = 0; tray < 7; tray++) {
            x.make(tray, tray, 2);
            x.put(tray, 1, tray, 1);
        }
        x.give(5, 77);
        x.look(5, 1);
        x.step(GO, 0, 1, 0, 0);
        x.step(TAKE, 7, 0, 0, 3);
        x.step(SET, 0, 99, 0, 0);
        x.step(GO, 0, 100, 0, 0);
        x.step(WHILE, 7, 0, 0, -1);
        x.run();
        x.make(7, 7, 13);
    }

    /** THE ORDER is full, and no more rows can be made; the last run is spent. */
    private static void isUsedUp(RelayTrays x) {
        for (int i = 0; i < 40; i++) {
            x.step(MAKE, i % 7, i % 3, i % 8, 40);
        }
        for (int i = 0; i < 10; i++) {
            x.run();
        }
        for (int i = 0; i < 40; i++) {
            x.alter(i, GO, 0, i * i, 0, 0);
        }
        x.alter(39, JUMP, 0, 0, 0, 0);
        x.run();
    }

    private static void refused(String call, ToLongFunction<RelayTrays> question, int answer) {
        for (Consumer<RelayTrays> used : USED) {
            new Twins(DUE, used).changesNothing(call, question, answer);
        }
    }

    // ---- the calls

    private static void make() {
        for (int wrong : NO_TRAYS_NOR_KINDS) {
            refused("make(" + wrong + ", 4, 1)", x -> x.make(wrong, 4, 1), BAD);
            refused("make(0, " + wrong + ", 1)", x -> x.make(0, wrong, 1), BAD);
            refused("make(" + wrong + ", " + wrong + ", 1)", x -> x.make(wrong, wrong, 1), BAD);
        }
    }

    private static void put() {
        for (int wrong : NO_TRAYS_NOR_KINDS) {
            refused("put(" + wrong + ", 0, 1, 5)", x -> x.put(wrong, 0, 1, 5), BAD);
            refused("put(5, 0, " + wrong + ", 5)", x -> x.put(5, 0, wrong, 5), BAD);
            refused("put(" + wrong + ", 0, " + wrong + ", 5)", x -> x.put(wrong, 0, wrong, 5), BAD);
        }
    }

    private static void look() {
        for (int wrong : NO_TRAYS_NOR_KINDS) {
            refused("look(" + wrong + ", 0)", x -> x.look(wrong, 0), BAD);
            refused("look(" + wrong + ", 1)", x -> x.look(wrong, 1), BAD);
        }
    }

    private static void give() {
        for (int wrong : NO_TRAYS_NOR_KINDS) {
            refused("give(" + wrong + ", 1)", x -> x.give(wrong, 1), BAD);
        }
    }

    private static void kind() {
        for (int wrong : NO_TRAYS_NOR_KINDS) {
            refused("kind(" + wrong + ")", x -> x.kind(wrong), BAD);
        }
    }

    private static void size() {
        for (int wrong : NO_TRAYS_NOR_KINDS) {
            refused("size(" + wrong + ")", x -> x.size(wrong), BAD);
        }
    }

    private static void same() {
        for (int wrong : NO_TRAYS_NOR_KINDS) {
            refused("same(" + wrong + ", 0)", x -> x.same(wrong, 0), BAD);
            refused("same(0, " + wrong + ")", x -> x.same(0, wrong), BAD);
            refused("same(" + wrong + ", " + wrong + ")", x -> x.same(wrong, wrong), BAD);
        }
    }

    /** A full order too: BAD is told ahead of FULL, as the document names it first. */
    private static void step() {
        for (int wrong : NO_ACTS_TO_DO) {
            refused("step(" + wrong + ", 0, 7, 0, 0)", x -> x.step(wrong, 0, 7, 0, 0), BAD);
        }
        for (int wrong : NO_TRAYS_NOR_KINDS) {
            for (int what = TAKE; what <= DROP; what++) {
                int act = what;
                refused("step(" + act + ", " + wrong + ", 7, 0, 0)", x -> x.step(act, wrong, 7, 0, 0), BAD);
                refused("step(" + act + ", 0, 7, " + wrong + ", 0)", x -> x.step(act, 0, 7, wrong, 0), BAD);
            }
        }
    }

    private static void stepIsFull() {
        Twins full = new Twins(DUE, RefusedTest::isUsedUp);
        for (int what = TAKE; what <= DROP; what++) {
            int act = what;
            full.changesNothing("step(" + act + ", ..) of a full order", x -> x.step(act, 0, 7, 0, 0), FULL);
        }
        RelayTrays x = new RelayTrays();
        isUsedUp(x);
        DUE.due("alter() of a full order, which is not FULL", x.alter(39, SET, 0, 5, 0, 0), JUMP);
        DUE.due("clear() of a full order", x.clear(), 40);
        DUE.due("step() behind clear()", x.step(SET, 0, 5, 0, 0), 1);
        for (int acts = 2; acts <= 40; acts++) {
            DUE.due("step() number " + acts, x.step(SET, 0, 5, 0, 0), acts);
        }
        DUE.due("step() number 41", x.step(SET, 0, 5, 0, 0), FULL);
    }

    private static void alterOfNoAct() {
        int[] acts = {0, 5, 40};
        for (int sort = 0; sort < acts.length; sort++) {
            Twins twins = new Twins(DUE, USED.get(sort));
            for (int i : new int[] {-1, MIN, MAX, acts[sort], acts[sort] + 1, 40, 41}) {
                twins.changesNothing("alter(" + i + ", ..)", x -> x.alter(i, GO, 0, 7, 0, 0), BAD);
            }
        }
        // acts that there were, and are no more
        Twins cleared = new Twins(DUE, x -> {
            isUsedUp(x);
            x.clear();
            x.step(GO, 0, 3, 0, 0);
        });
        for (int i : new int[] {1, 2, 39}) {
            cleared.changesNothing("alter(" + i + ", ..) behind clear()", x -> x.alter(i, GO, 0, 7, 0, 0), BAD);
        }
    }

    private static void alter() {
        for (int i : new int[] {0, 4}) {
            for (int wrong : NO_ACTS_TO_DO) {
                refused("alter(" + i + ", " + wrong + ", ..)", x -> x.alter(i, wrong, 0, 7, 0, 0), BAD);
            }
            for (int wrong : NO_TRAYS_NOR_KINDS) {
                refused("alter to tray " + wrong, x -> x.alter(i, GO, wrong, 7, 0, 0), BAD);
                refused("alter to kind " + wrong, x -> x.alter(i, GO, 0, 7, wrong, 0), BAD);
            }
        }
    }

    private static void count() {
        for (int wrong : NO_COUNTS) {
            refused("count(" + wrong + ")", x -> x.count(wrong), BAD);
        }
    }

    /** Calls that would meet a cause, were their numbers not BAD; no cause is counted. */
    private static void aheadOfCauses() {
        for (int wrong : new int[] {-1, 8}) {
            for (int n : new int[] {MIN, -1, 13, MAX}) {
                refused("make(" + wrong + ", 4, " + n + ")", x -> x.make(wrong, 4, n), BAD);
                refused("make(7, " + wrong + ", " + n + ")", x -> x.make(7, wrong, n), BAD);
            }
            for (int i : new int[] {MIN, -1, 0, 2, MAX}) {
                refused("put(" + wrong + ", " + i + ", 4, 1)", x -> x.put(wrong, i, 4, 1), BAD);
                refused("put(7, " + i + ", " + wrong + ", 1)", x -> x.put(7, i, wrong, 1), BAD);
                refused("put(0, " + i + ", " + wrong + ", 1)", x -> x.put(0, i, wrong, 1), BAD);
                refused("look(" + wrong + ", " + i + ")", x -> x.look(wrong, i), BAD);
            }
        }
    }

    private static void named() {
        for (int edge : new int[] {0, 7}) {
            RelayTrays x = new RelayTrays();
            DUE.due("make", x.make(edge, edge, 1), 1);
            DUE.due("put", x.put(edge, 0, edge, 1), 1);
            DUE.due("look", x.look(edge, 0), edge);
            DUE.due("give", x.give(edge, 1), -4);
            DUE.due("kind", x.kind(edge), edge);
            DUE.due("size", x.size(edge), 1);
            DUE.due("same", x.same(edge, 7 - edge), 0);
            DUE.due("step", x.step(TAKE, edge, 0, edge, 0), 1);
            DUE.due("step", x.step(DROP, edge, 0, edge, 0), 2);
            DUE.due("alter", x.alter(0, DROP, edge, 0, edge, 0), TAKE);
            DUE.due("alter", x.alter(1, TAKE, edge, 0, edge, 0), DROP);
        }
        RelayTrays x = new RelayTrays();
        for (int what : new int[] {0, 1, 2, 3, 4, 11, 12, 13, 14, 15, 16}) {
            DUE.due("count(" + what + ")", x.count(what), 0);
        }
    }
}
