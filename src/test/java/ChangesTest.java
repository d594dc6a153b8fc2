import java.util.Map;
import java.util.function.Consumer;

/** Each call that is done: its promise tells what it changes, "Nothing is promised beyond", and nothing else is. */
public final class ChangesTest {
    private static final Due DUE = new Due();
    private static final int NONE = -4;
    private static final int TAKE = 0, PASS = 5, GO = 7, SET = 8, DROP = 13;

    private static final Twins IN_USE = new Twins(DUE, ChangesTest::isInUse);
    private static final Twins BARE = new Twins(DUE, behind(ChangesTest::dropsTheHand));
    private static final Twins WITHOUT_ACTS = new Twins(DUE, behind(RelayTrays::clear));

    public static void main(String[] args) {
        DUE.sentence("2: make: changes a TRAY that had NOTHING", ChangesTest::makeOnNothing);
        DUE.sentence("2: make: changes a TRAY, not the ROW that was there", ChangesTest::makeOnARow);
        DUE.sentence("3: put: changes a PLACE, on all TRAYS with its ROW", ChangesTest::put);
        DUE.sentence("4: look: changes what was SEEN", ChangesTest::look);
        DUE.sentence("5: give: changes THE HAND", ChangesTest::give);
        DUE.sentence("6: hand: changes what was SEEN", ChangesTest::hand);
        DUE.sentence("6: hand: NONE changes nothing", ChangesTest::handOfNone);
        DUE.sentence("7 to 10, 15 to 18: questions change nothing", ChangesTest::questions);
        DUE.sentence("11: step: changes THE ORDER", ChangesTest::step);
        DUE.sentence("12: alter: changes an ACT of THE ORDER", ChangesTest::alter);
        DUE.sentence("13: clear: changes THE ORDER", ChangesTest::clear);
        DUE.sentence("14: run: of no ACTS, changes what is told of RUNS", ChangesTest::runOfNoActs);
        DUE.end("ChangesTest");
    }

    // ---- the objects

    /** Chars on trays 0 and 1, which are one row; no doubles on tray 2, a float on 3, nothing on 4 to 7. */
    private static void isInUse(RelayTrays x) {
        x.make(0, 3, 2);
        x.put(0, 0, 3, 7);
        x.put(0, 1, 3, 65535);
        x.make(2, 7, 0);
        x.make(3, 6, 1);
        x.give(4, -9);
        x.look(0, 1);
        x.step(PASS, 1, 0, 0, 0);
        x.step(SET, 0, 1, 0, 0);
        x.step(TAKE, 6, 0, 0, -1);
        x.run();
    }

    private static void dropsTheHand(RelayTrays x) {
        x.clear();
        x.step(DROP, 0, 0, 0, 0);
        x.run();
    }

    private static Consumer<RelayTrays> behind(Consumer<RelayTrays> more) {
        return x -> {
            isInUse(x);
            more.accept(x);
        };
    }

    // ---- the calls

    private static void makeOnNothing() {
        IN_USE.callChanges("make(4, 5, 2)", x -> x.make(4, 5, 2), 1, State.answers(
            "kind(4)", 5, "size(4)", 2, "same(5, 4)", 0, "same(6, 4)", 0, "same(7, 4)", 0,
            "look(4, 0)", 5, "seen() behind look(4, 0)", 0, "look(4, 1)", 5, "seen() behind look(4, 1)", 0,
            State.count(0), 4));
        IN_USE.callChanges("make(7, 0, 0)", x -> x.make(7, 0, 0), 1, State.answers(
            "kind(7)", 0, "size(7)", 0, "same(7, 4)", 0, "same(7, 5)", 0, "same(7, 6)", 0, State.count(0), 4));
    }

    private static void makeOnARow() {
        Map<String, Long> changes = State.answers(
            "kind(1)", 1, "size(1)", 1, "same(1, 0)", 0, "look(1, 0)", 1, "seen() behind look(1, 0)", 0,
            State.count(0), 4);
        changes.putAll(State.gone("look(1, 1)", "seen() behind look(1, 1)"));
        IN_USE.callChanges("make(1, 1, 1)", x -> x.make(1, 1, 1), 1, changes);
    }

    private static void put() {
        IN_USE.callChanges("put(0, 0, 3, 9)", x -> x.put(0, 0, 3, 9), 1, State.answers(
            "seen() behind look(0, 0)", 9, "seen() behind look(1, 0)", 9));
        IN_USE.callChanges("put(1, 1, 3, -2)", x -> x.put(1, 1, 3, -2), 1, State.answers(
            "seen() behind look(0, 1)", 65534, "seen() behind look(1, 1)", 65534));
        IN_USE.callChanges("put(3, 0, 5, -1)", x -> x.put(3, 0, 5, -1), 1, State.answers(
            "seen() behind look(3, 0)", Float.floatToIntBits(-1f)));
        BARE.callChanges("put(0, 0, 3, 9) with a bare hand", x -> x.put(0, 0, 3, 9), 1, State.answers(
            "seen() behind look(0, 0)", 9, "seen() behind look(1, 0)", 9));
    }

    private static void look() {
        IN_USE.callChanges("look(1, 0)", x -> x.look(1, 0), 3, State.answers("seen()", 7));
        IN_USE.callChanges("look(3, 0)", x -> x.look(3, 0), 6, State.answers("seen()", 0));
        IN_USE.callChanges("look(0, 1), seen before", x -> x.look(0, 1), 3, State.answers());
    }

    private static void give() {
        IN_USE.callChanges("give(1, 255)", x -> x.give(1, 255), 4, State.answers(
            "hand()", 1, "seen() of the hand", -1));
        BARE.callChanges("give(7, 1)", x -> x.give(7, 1), NONE, State.answers(
            "hand()", 7, "seen() of the hand", 1));
    }

    private static void hand() {
        IN_USE.callChanges("hand()", RelayTrays::hand, 4, State.answers("seen()", -9));
    }

    private static void handOfNone() {
        BARE.changesNothing("hand()", RelayTrays::hand, NONE);
    }

    private static void questions() {
        IN_USE.changesNothing("seen()", RelayTrays::seen, 65535);
        IN_USE.changesNothing("kind(0)", x -> x.kind(0), 3);
        IN_USE.changesNothing("kind(6)", x -> x.kind(6), NONE);
        IN_USE.changesNothing("size(1)", x -> x.size(1), 2);
        IN_USE.changesNothing("size(6)", x -> x.size(6), NONE);
        IN_USE.changesNothing("same(0, 1)", x -> x.same(0, 1), 1);
        IN_USE.changesNothing("same(0, 2)", x -> x.same(0, 2), 0);
        IN_USE.changesNothing("same(6, 7)", x -> x.same(6, 7), 1);
        IN_USE.changesNothing("point()", RelayTrays::point, 1);
        IN_USE.changesNothing("begun()", RelayTrays::begun, 3);
        IN_USE.changesNothing("where()", RelayTrays::where, 2);
        int[] counts = {3, 3, 1, 1, 0};
        for (int what = 0; what < counts.length; what++) {
            int asked = what;
            IN_USE.changesNothing(State.count(what), x -> x.count(asked), counts[what]);
        }
        for (int cause = 1; cause <= 6; cause++) {
            int asked = 10 + cause;
            IN_USE.changesNothing(State.count(asked), x -> x.count(asked), cause == 1 ? 1 : 0);
        }
    }

    private static void step() {
        IN_USE.callChanges("step(7, 0, 5, 0, 0)", x -> x.step(GO, 0, 5, 0, 0), 4, State.answers(State.count(1), 4));
        WITHOUT_ACTS.callChanges("step(7, 0, 5, 0, 0)", x -> x.step(GO, 0, 5, 0, 0), 1,
            State.answers(State.count(1), 1));
    }

    private static void alter() {
        IN_USE.callChanges("alter(2, 7, 0, 5, 0, 0), of the act that where() tells",
            x -> x.alter(2, GO, 0, 5, 0, 0), TAKE, State.answers());
        IN_USE.callChanges("alter(0, 7, 0, 5, 0, 0)", x -> x.alter(0, GO, 0, 5, 0, 0), PASS, State.answers());
    }

    private static void clear() {
        IN_USE.callChanges("clear()", RelayTrays::clear, 3, State.answers(State.count(1), 0));
        WITHOUT_ACTS.changesNothing("clear() of no acts", RelayTrays::clear, 0);
    }

    private static void runOfNoActs() {
        WITHOUT_ACTS.callChanges("run()", RelayTrays::run, 0, State.answers("begun()", 0, State.count(2), 2));
    }
}
