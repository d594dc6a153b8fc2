import java.util.Map;
import java.util.function.Consumer;

/** "Terms", the acts 0 to 13: the causes that each names, in their order, and that a cause changes nothing. */
public final class CausesTest {
    private static final Due DUE = new Due();
    private static final int NONE = -4;
    private static final int DONE = 0, NOTHING = 1, BARE = 2, PLACE = 3, MISFIT = 4, SIZE = 5, WIDE = 6;
    private static final int MIN = Integer.MIN_VALUE, MAX = Integer.MAX_VALUE;

    private static final int TAKE = 0, READ = 1, LAY = 2, COUNT = 3, MAKE = 4, PASS = 5, CLEAR = 6;
    private static final int GO = 7, SET = 8, WHILE = 9, ADD = 10, SWAP = 11, JUMP = 12, DROP = 13;

    /** Trays by what lies on them: rows of two places each, but for EMPTY, which has none. */
    private static final int BYTES = 1, SHORTS = 2, CHARS = 3, TRUTHS = 4, LONGS = 5, FLOATS = 6, EMPTY = 7, NO_ROW = 0;

    public static void main(String[] args) {
        DUE.sentence("0 TAKE: .. NOTHING, PLACE.", CausesTest::take);
        DUE.sentence("1 READ: .. NOTHING, PLACE, MISFIT.", CausesTest::read);
        DUE.sentence("2 LAY: .. NOTHING, BARE, PLACE, MISFIT.", CausesTest::lay);
        DUE.sentence("3 COUNT: .. NOTHING.", CausesTest::countPlaces);
        DUE.sentence("4 MAKE: .. WIDE, SIZE.", CausesTest::make);
        DUE.sentence("5 PASS: the TRAY gets what TRAY a modulo 8 (from 0 on) has", CausesTest::pass);
        DUE.sentence("5 PASS: .. also NOTHING", CausesTest::passOfNothing);
        DUE.sentence("6 CLEAR: the TRAY has NOTHING.", CausesTest::clear);
        DUE.sentence("7 GO: THE POINT becomes THE POINT + a.", CausesTest::go);
        DUE.sentence("8 SET: THE POINT becomes a.", CausesTest::set);
        DUE.sentence("9 WHILE: .. NOTHING.", CausesTest::whilePlace);
        DUE.sentence("10 ADD: .. BARE, MISFIT (its own), NOTHING, PLACE, MISFIT.", CausesTest::add);
        DUE.sentence("10 ADD: .. both as longs, together (going round)", CausesTest::addGoesRound);
        DUE.sentence("11 SWAP: .. NOTHING, PLACE, BARE, MISFIT.", CausesTest::swap);
        DUE.sentence("12 JUMP: it goes on at ACT a.", CausesTest::jump);
        DUE.sentence("13 DROP: THE HAND has none.", CausesTest::drop);
        DUE.sentence("5 SIZE: a is below 0.", CausesTest::size);
        DUE.sentence("6 WIDE: a is above 12,", CausesTest::wide);
        DUE.sentence("or 400 ROWS were made.", CausesTest::fourHundredRows);
        DUE.sentence("CAUSES, of those that an ACT names the first that is so", CausesTest::theFirstThatIsSo);
        DUE.sentence("what is done (0 .. 13): each changes what it tells, and nothing else", CausesTest::changes);
        DUE.end("CausesTest");
    }

    // ---- how they are asked

    private static Consumer<RelayTrays> laidOut(int handKind) {
        return x -> {
            x.make(BYTES, 1, 2);
            x.put(BYTES, 0, 1, -5);
            x.put(BYTES, 1, 1, 100);
            x.make(SHORTS, 2, 2);
            x.put(SHORTS, 1, 2, -300);
            x.make(CHARS, 3, 2);
            x.put(CHARS, 0, 3, 65535);
            x.make(TRUTHS, 0, 2);
            x.put(TRUTHS, 1, 0, 1);
            x.make(LONGS, 5, 2);
            x.put(LONGS, 0, 5, 1L << 40);
            x.put(LONGS, 1, 5, Long.MAX_VALUE);
            x.make(FLOATS, 6, 2);
            x.put(FLOATS, 0, 6, 0x40490fdbL);
            x.make(EMPTY, 4, 0);
            x.look(LONGS, 0);
            if (handKind != NONE) {
                x.give(handKind, 1);
            }
        };
    }

    /** An act by itself with a hand of a kind; one that meets a cause must change nothing. */
    private static void asks(int what, int handKind, int tray, int a, int kind, int cause) {
        String act = "act " + what + " on tray " + tray + ", a " + a + ", k " + kind + ", hand of kind " + handKind;
        if (cause != DONE) {
            new Twins(DUE, laidOut(handKind)).actMeets(act, what, tray, a, kind, cause);
            return;
        }
        RelayTrays x = new RelayTrays();
        laidOut(handKind).accept(x);
        DUE.due("run() of " + act, act(x, what, tray, a, kind), 1);
        for (int met = NOTHING; met <= WIDE; met++) {
            DUE.due("count(" + (10 + met) + ") behind " + act, x.count(10 + met), 0);
        }
        DUE.due("where() behind " + act, x.where(), NONE);
    }

    private static int act(RelayTrays x, int what, int tray, int a, int kind) {
        x.clear();
        x.step(what, tray, a, kind, -1);
        return x.run();
    }

    private static RelayTrays laid(int handKind) {
        RelayTrays x = new RelayTrays();
        laidOut(handKind).accept(x);
        return x;
    }

    private static void handIs(RelayTrays x, int kind, long bits) {
        DUE.due("hand()", x.hand(), kind);
        DUE.due("seen() of the hand", x.seen(), bits);
    }

    private static void thereIs(RelayTrays x, int tray, int i, int kind, long bits) {
        DUE.due("look(" + tray + ", " + i + ")", x.look(tray, i), kind);
        DUE.due("seen() of " + tray + ", " + i, x.seen(), bits);
    }

    /** The bounds of the places of a row of two. */
    private static void noSuchPlace(int what, int handKind, int tray, int kind) {
        for (int a : new int[] {-1, 2, 3, 12, MIN, MAX}) {
            asks(what, handKind, tray, a, kind, PLACE);
        }
    }

    // ---- each act

    private static void take() {
        asks(TAKE, NONE, NO_ROW, 0, 0, NOTHING);
        asks(TAKE, NONE, NO_ROW, -1, 0, NOTHING);
        asks(TAKE, 4, NO_ROW, 0, 0, NOTHING);
        noSuchPlace(TAKE, NONE, BYTES, 1);
        noSuchPlace(TAKE, 0, BYTES, 1);
        asks(TAKE, NONE, EMPTY, 0, 0, PLACE);
        asks(TAKE, NONE, BYTES, 0, 0, DONE);
        asks(TAKE, 0, LONGS, 1, 0, DONE);
        RelayTrays x = laid(NONE);
        act(x, TAKE, BYTES, 1, 7);
        handIs(x, 1, 100);
        thereIs(x, BYTES, 1, 1, 100);
    }

    private static void read() {
        asks(READ, NONE, NO_ROW, 0, 0, NOTHING);
        asks(READ, NONE, NO_ROW, -1, 0, NOTHING);
        noSuchPlace(READ, NONE, BYTES, 1);
        noSuchPlace(READ, 0, BYTES, 0);
        asks(READ, 4, EMPTY, 0, 4, PLACE);
        asks(READ, 4, EMPTY, 0, 1, PLACE);
        asks(READ, 4, BYTES, 0, 0, MISFIT);
        asks(READ, NONE, BYTES, 1, 3, MISFIT);
        asks(READ, NONE, FLOATS, 0, 5, MISFIT);
        asks(READ, NONE, BYTES, 0, 2, DONE);
        asks(READ, 0, BYTES, 1, 7, DONE);
        RelayTrays x = laid(NONE);
        act(x, READ, CHARS, 0, 5);
        handIs(x, 5, 65535);
        thereIs(x, CHARS, 0, 3, 65535);
    }

    private static void lay() {
        asks(LAY, NONE, NO_ROW, 0, 0, NOTHING);
        asks(LAY, NONE, NO_ROW, -1, 0, NOTHING);
        asks(LAY, 4, NO_ROW, 0, 0, NOTHING);
        asks(LAY, NONE, BYTES, 0, 0, BARE);
        asks(LAY, NONE, BYTES, -1, 0, BARE);
        asks(LAY, NONE, BYTES, 2, 0, BARE);
        asks(LAY, NONE, EMPTY, 0, 0, BARE);
        noSuchPlace(LAY, 1, BYTES, 1);
        noSuchPlace(LAY, 7, BYTES, 1);
        asks(LAY, 4, EMPTY, 0, 0, PLACE);
        asks(LAY, 2, BYTES, 0, 0, MISFIT);
        asks(LAY, 1, CHARS, 1, 0, MISFIT);
        asks(LAY, 6, LONGS, 0, 5, MISFIT);
        asks(LAY, 1, BYTES, 0, 0, DONE);
        asks(LAY, 1, FLOATS, 1, 0, DONE);
        RelayTrays x = laid(1);
        act(x, LAY, LONGS, 1, 0);
        thereIs(x, LONGS, 1, 5, 1);
        handIs(x, 1, 1);
    }

    private static void countPlaces() {
        asks(COUNT, NONE, NO_ROW, 0, 0, NOTHING);
        asks(COUNT, 4, NO_ROW, 0, 0, NOTHING);
        for (int a : new int[] {-1, 0, 2, MIN, MAX}) {
            asks(COUNT, NONE, BYTES, a, 0, DONE);
        }
        for (int n = 0; n <= 12; n++) {
            RelayTrays x = new RelayTrays();
            x.make(3, 7, n);
            DUE.due("COUNT of " + n, act(x, COUNT, 3, 0, 0), 1);
            handIs(x, 4, n);
        }
    }

    private static void make() {
        for (int a : new int[] {-1, -2, -12, -13, MIN}) {
            asks(MAKE, NONE, NO_ROW, a, 0, SIZE);
            asks(MAKE, 4, BYTES, a, 1, SIZE);
        }
        for (int a : new int[] {13, 14, 400, MAX}) {
            asks(MAKE, NONE, NO_ROW, a, 0, WIDE);
            asks(MAKE, 4, BYTES, a, 1, WIDE);
        }
        for (int a = 0; a <= 12; a++) {
            asks(MAKE, NONE, NO_ROW, a, 7, DONE);
            asks(MAKE, NONE, BYTES, a, 7, DONE);
        }
    }

    private static void pass() {
        int[] as = {0, 1, 7, 8, 9, 15, 16, -1, -7, -8, -9, MIN, MIN + 1, MAX, MAX - 1};
        int[] from = {0, 1, 7, 0, 1, 7, 0, 7, 1, 0, 7, 0, 1, 7, 6};
        for (int i = 0; i < as.length; i++) {
            RelayTrays x = new RelayTrays();
            for (int tray = 0; tray < 8; tray++) {
                x.make(tray, tray, tray);
            }
            int onto = from[i] == 3 ? 4 : 3;
            DUE.due("PASS of " + as[i], act(x, PASS, onto, as[i], 0), 1);
            for (int tray = 0; tray < 8; tray++) {
                boolean one = tray == onto || tray == from[i];
                DUE.due("same(" + onto + ", " + tray + ") behind PASS of " + as[i], x.same(onto, tray), one ? 1 : 0);
            }
            DUE.due("kind(" + onto + ")", x.kind(onto), from[i]);
            DUE.due("size(" + onto + ")", x.size(onto), from[i]);
            DUE.due("rows made", x.count(0), 8);
        }
        RelayTrays x = laid(NONE);
        DUE.due("PASS of a tray to itself", act(x, PASS, BYTES, BYTES - 8, 0), 1);
        thereIs(x, BYTES, 1, 1, 100);
        act(x, SET, 0, 1, 0);
        DUE.due("PASS minds no point", act(x, PASS, BYTES, LONGS, 0), 1);
        DUE.due("same(BYTES, LONGS)", x.same(BYTES, LONGS), 1);
    }

    private static void passOfNothing() {
        asks(PASS, NONE, BYTES, NO_ROW, 0, DONE);
        asks(PASS, NONE, NO_ROW, NO_ROW, 0, DONE);
        RelayTrays x = laid(NONE);
        act(x, PASS, BYTES, NO_ROW, 0);
        DUE.due("kind of a tray that got nothing", x.kind(BYTES), NONE);
        DUE.due("size of a tray that got nothing", x.size(BYTES), NONE);
        DUE.due("same(BYTES, NO_ROW)", x.same(BYTES, NO_ROW), 1);
    }

    private static void clear() {
        asks(CLEAR, NONE, BYTES, -1, 0, DONE);
        asks(CLEAR, NONE, NO_ROW, 0, 0, DONE);
        for (int tray = 0; tray < 8; tray++) {
            RelayTrays x = new RelayTrays();
            for (int other = 0; other < 8; other++) {
                x.make(other, 4, 1);
            }
            act(x, CLEAR, tray, 5, 0);
            for (int other = 0; other < 8; other++) {
                DUE.due("kind(" + other + ") behind CLEAR of " + tray, x.kind(other), other == tray ? NONE : 4);
            }
            DUE.due("count(1) behind CLEAR, which is none of THE ORDER", x.count(1), 1);
        }
    }

    private static void go() {
        int[][] sums = {
            {0, 0, 0}, {0, -1, -1}, {-1, 1, 0}, {MAX, 1, MIN}, {MIN, -1, MAX}, {MAX, MAX, -2}, {MIN, MIN, 0},
            {MAX, MIN, -1}, {MIN, MAX, -1}, {5, 7, 12}};
        for (int[] sum : sums) {
            RelayTrays x = new RelayTrays();
            act(x, SET, 0, sum[0], 0);
            DUE.due("GO by " + sum[1], act(x, GO, 0, sum[1], 0), 1);
            DUE.due("point() behind GO by " + sum[1], x.point(), sum[2]);
        }
        asks(GO, NONE, NO_ROW, 1, 0, DONE);
        asks(GO, NONE, BYTES, 99, 0, DONE);
    }

    private static void set() {
        for (int to : new int[] {0, 1, -1, MIN, MAX}) {
            RelayTrays x = new RelayTrays();
            act(x, GO, 0, 7, 0);
            DUE.due("SET to " + to, act(x, SET, 0, to, 0), 1);
            DUE.due("point() behind SET to " + to, x.point(), to);
        }
        asks(SET, NONE, NO_ROW, 1, 0, DONE);
        asks(SET, NONE, BYTES, 99, 0, DONE);
    }

    private static void whilePlace() {
        for (int a : new int[] {MIN, -1, 0, 1, MAX}) {
            asks(WHILE, NONE, NO_ROW, a, 0, NOTHING);
            asks(WHILE, 4, NO_ROW, a, 0, NOTHING);
            asks(WHILE, NONE, EMPTY, a, 0, DONE);
        }
        asks(WHILE, NONE, BYTES, 1, 0, DONE);
        asks(WHILE, NONE, BYTES, -1, 0, DONE);
    }

    private static void add() {
        for (int tray : new int[] {NO_ROW, BYTES, FLOATS, EMPTY}) {
            asks(ADD, NONE, tray, 0, 0, BARE);
            asks(ADD, NONE, tray, -1, 0, BARE);
        }
        for (int own : new int[] {0, 6, 7}) {
            for (int tray : new int[] {NO_ROW, BYTES, FLOATS, EMPTY}) {
                asks(ADD, own, tray, 0, 5, MISFIT);
                asks(ADD, own, tray, 2, 5, MISFIT);
            }
        }
        for (int own = 1; own <= 5; own++) {
            asks(ADD, own, NO_ROW, 0, 5, NOTHING);
            asks(ADD, own, NO_ROW, -1, 5, NOTHING);
            noSuchPlace(ADD, own, BYTES, 0);
            noSuchPlace(ADD, own, FLOATS, 0);
            asks(ADD, own, EMPTY, 0, 0, PLACE);
            asks(ADD, own, FLOATS, 0, 5, MISFIT);
            asks(ADD, own, TRUTHS, 1, 5, MISFIT);
            asks(ADD, own, BYTES, 0, 0, DONE);
            asks(ADD, own, LONGS, 1, 0, DONE);
        }
        RelayTrays x = laid(3);
        act(x, ADD, SHORTS, 1, 0);
        handIs(x, 5, -299);
        thereIs(x, SHORTS, 1, 2, -300);
    }

    private static void addGoesRound() {
        long[][] sums = {
            {Long.MAX_VALUE, 1, Long.MIN_VALUE}, {Long.MAX_VALUE, 0, Long.MAX_VALUE},
            {Long.MIN_VALUE, -1, Long.MAX_VALUE}, {Long.MIN_VALUE, Long.MIN_VALUE, 0},
            {Long.MAX_VALUE, Long.MAX_VALUE, -2}, {Long.MAX_VALUE - 1, 1, Long.MAX_VALUE},
            {1, Long.MAX_VALUE, Long.MIN_VALUE}, {MAX, 1, MAX + 1L}};
        for (long[] sum : sums) {
            RelayTrays x = new RelayTrays();
            x.make(0, 5, 1);
            x.put(0, 0, 5, sum[1]);
            x.give(5, sum[0]);
            DUE.due("ADD", act(x, ADD, 0, 0, 0), 1);
            handIs(x, 5, sum[2]);
        }
        added(1, 127, 1, 127, 254);
        added(1, -128, 1, -128, -256);
        added(2, 32767, 2, 32767, 65534);
        added(3, 65535, 3, 65535, 131070);
        added(4, MAX, 4, MAX, 2L * MAX);
        added(4, MIN, 4, MIN, 2L * MIN);
        added(1, 255, 3, 65535, 65534);
    }

    private static void added(int own, long ownBits, int kind, long bits, long due) {
        RelayTrays x = new RelayTrays();
        x.make(0, kind, 1);
        x.put(0, 0, kind, bits);
        x.give(own, ownBits);
        DUE.due("ADD of kind " + kind + " to kind " + own, act(x, ADD, 0, 0, 0), 1);
        handIs(x, 5, due);
    }

    private static void swap() {
        asks(SWAP, NONE, NO_ROW, 0, 0, NOTHING);
        asks(SWAP, NONE, NO_ROW, -1, 0, NOTHING);
        asks(SWAP, 4, NO_ROW, 0, 0, NOTHING);
        noSuchPlace(SWAP, NONE, BYTES, 0);
        noSuchPlace(SWAP, 1, BYTES, 0);
        noSuchPlace(SWAP, 7, BYTES, 0);
        asks(SWAP, NONE, EMPTY, 0, 0, PLACE);
        asks(SWAP, NONE, BYTES, 0, 0, BARE);
        asks(SWAP, NONE, LONGS, 1, 0, BARE);
        asks(SWAP, 4, BYTES, 0, 0, MISFIT);
        asks(SWAP, 1, CHARS, 1, 1, MISFIT);
        asks(SWAP, 0, LONGS, 1, 0, MISFIT);
        // what was there need not go into what the hand had
        asks(SWAP, 1, LONGS, 1, 0, DONE);
        RelayTrays x = laid(1);
        act(x, SWAP, LONGS, 1, 0);
        handIs(x, 5, Long.MAX_VALUE);
        thereIs(x, LONGS, 1, 5, 1);
        thereIs(x, LONGS, 0, 5, 1L << 40);
    }

    private static void jump() {
        for (int a : new int[] {MIN, -1, 1, 2, 40, MAX}) {
            asks(JUMP, NONE, NO_ROW, a, 0, DONE);
        }
        RelayTrays x = new RelayTrays();
        act(x, SET, 0, 1, 0);
        x.clear();
        x.step(JUMP, 0, 2, 0, 1);
        x.step(SET, 0, 99, 0, 0);
        x.step(GO, 0, 1, 0, 0);
        DUE.due("run() of a JUMP over an act, which minds no point", x.run(), 2);
        DUE.due("point()", x.point(), 2);
    }

    private static void drop() {
        asks(DROP, NONE, NO_ROW, 0, 0, DONE);
        for (int kind = 0; kind < 8; kind++) {
            RelayTrays x = laid(kind);
            DUE.due("DROP of kind " + kind, act(x, DROP, NO_ROW, 0, 0), 1);
            DUE.due("hand() behind DROP of kind " + kind, x.hand(), NONE);
            DUE.due("seen() behind DROP, as it was", x.seen(), 1L << 40);
            DUE.due("LAY behind DROP", act(x, LAY, LONGS, 0, 0), -10 - BARE);
            DUE.due("give() behind DROP", x.give(4, 1), NONE);
        }
    }

    // ---- what each changes; the acts have an a that another act would use otherwise

    private static void changes() {
        Twins twins = new Twins(DUE, laidOut(2));
        twins.actChanges("TAKE", TAKE, BYTES, 1, 7, State.answers("hand()", 1, "seen() of the hand", 100));
        twins.actChanges("READ", READ, BYTES, 1, 4, State.answers("hand()", 4, "seen() of the hand", 100));
        twins.actChanges("LAY", LAY, LONGS, 1, 7, State.answers("seen() behind look(5, 1)", 1));
        twins.actChanges("COUNT", COUNT, LONGS, 1, 7, State.answers("hand()", 4, "seen() of the hand", 2));
        twins.actChanges("PASS", PASS, NO_ROW, 1, 7, State.answers(
            "kind(0)", 1, "size(0)", 2, "same(1, 0)", 1, "look(0, 0)", 1, "seen() behind look(0, 0)", -5,
            "look(0, 1)", 1, "seen() behind look(0, 1)", 100));
        twins.actChanges("GO", GO, BYTES, 1, 7, State.answers("point()", 1));
        twins.actChanges("SET", SET, BYTES, 1, 7, State.answers("point()", 1));
        twins.actChanges("WHILE", WHILE, BYTES, 1, 7, State.answers());
        twins.actChanges("ADD", ADD, BYTES, 1, 7, State.answers("hand()", 5, "seen() of the hand", 101));
        twins.actChanges("SWAP", SWAP, LONGS, 0, 7, State.answers(
            "hand()", 5, "seen() of the hand", 1L << 40, "seen() behind look(5, 0)", 1));
        twins.actChanges("JUMP", JUMP, BYTES, 1, 7, State.answers());
        Map<String, Long> made = State.answers(
            "kind(1)", 7, "size(1)", 1, "look(1, 0)", 7, "seen() behind look(1, 0)", 0);
        made.putAll(State.gone("look(1, 1)", "seen() behind look(1, 1)"));
        made.put(State.count(0), 8L);
        twins.actChanges("MAKE", MAKE, BYTES, 1, 7, made);
        Map<String, Long> cleared = State.answers("kind(1)", NONE, "size(1)", NONE, "same(1, 0)", 1);
        cleared.putAll(State.gone("look(1, 0)", "look(1, 1)", "seen() behind look(1, 0)", "seen() behind look(1, 1)"));
        twins.actChanges("CLEAR", CLEAR, BYTES, 1, 7, cleared);
        Map<String, Long> dropped = State.answers("hand()", NONE);
        dropped.putAll(State.gone("seen() of the hand"));
        twins.actChanges("DROP", DROP, BYTES, 1, 7, dropped);
    }

    // ---- the bounds of a new row, by make() too

    private static void size() {
        for (int n : new int[] {-1, -2, MIN}) {
            new Twins(DUE, laidOut(4)).callMeets("make(1, 4, " + n + ")", x -> x.make(BYTES, 4, n), SIZE);
            new Twins(DUE, laidOut(4)).callMeets("make(0, 4, " + n + ")", x -> x.make(NO_ROW, 4, n), SIZE);
        }
        DUE.due("make(0, 4, 0)", new RelayTrays().make(0, 4, 0), 1);
    }

    private static void wide() {
        for (int n : new int[] {13, 14, MAX}) {
            new Twins(DUE, laidOut(4)).callMeets("make(1, 4, " + n + ")", x -> x.make(BYTES, 4, n), WIDE);
            new Twins(DUE, laidOut(4)).callMeets("make(0, 4, " + n + ")", x -> x.make(NO_ROW, 4, n), WIDE);
        }
        DUE.due("make(0, 4, 11)", new RelayTrays().make(0, 4, 11), 1);
        DUE.due("make(0, 4, 12)", new RelayTrays().make(0, 4, 12), 1);
    }

    private static void fourHundredRows() {
        RelayTrays x = new RelayTrays();
        rows(399).accept(x);
        DUE.due("rows made", x.count(0), 399);
        DUE.due("make of -1 with 399 rows made", x.make(1, 5, -1), -10 - SIZE);
        DUE.due("make of 13 with 399 rows made", x.make(1, 5, 13), -10 - WIDE);
        DUE.due("rows made, of which those that are not are none", x.count(0), 399);
        DUE.due("the 400th row, by MAKE", act(x, MAKE, 1, 12, 5), 1);
        DUE.due("rows made", x.count(0), 400);
        DUE.due("the 400th row's size", x.size(1), 12);
        DUE.due("the 401st row, by MAKE", act(x, MAKE, 1, 0, 5), -10 - WIDE);
        RelayTrays y = new RelayTrays();
        rows(399).accept(y);
        DUE.due("the 400th row, by make()", y.make(1, 5, 0), 1);
        DUE.due("the 401st row, by make()", y.make(1, 5, 0), -10 - WIDE);
        DUE.due("CLEAR", act(y, CLEAR, 1, 0, 0), 1);
        DUE.due("the 401st row where one was cleared", y.make(1, 5, 0), -10 - WIDE);
        DUE.due("rows made", y.count(0), 400);
        Twins all = new Twins(DUE, rows(400));
        for (int n : new int[] {MIN, -1, 0, 1, 12, 13, MAX}) {
            all.callMeets("make(0, 4, " + n + ") with 400 rows made", z -> z.make(0, 4, n), WIDE);
            all.callMeets("make(7, 4, " + n + ") with 400 rows made", z -> z.make(7, 4, n), WIDE);
            all.actMeets("MAKE of " + n + " with 400 rows made", MAKE, 0, n, 4, WIDE);
        }
        RelayTrays other = new RelayTrays();
        DUE.due("make() of another object", other.make(0, 4, 1), 1);
    }

    private static Consumer<RelayTrays> rows(int rows) {
        return x -> {
            x.step(MAKE, 0, 1, 6, -1);
            x.step(JUMP, 0, 0, 0, 0);
            while (x.count(0) + 20 <= rows) {
                x.run();
            }
            while (x.count(0) < rows) {
                x.make(x.count(0) % 2, 6, 1);
            }
            x.put(0, 0, 6, 0x3f800000L);
        };
    }

    // ---- every hand with every row, place and kind, for the acts that name more causes than one

    private static final String[] INTO = {"0", "124567", "24567", "34567", "4567", "567", "67", "7"};

    private static boolean goes(int from, int to) {
        return INTO[from].indexOf('0' + to) >= 0;
    }

    private static void theFirstThatIsSo() {
        for (int hand = NONE; hand < 8; hand = hand == NONE ? 0 : hand + 1) {
            for (int row = NONE; row < 8; row = row == NONE ? 0 : row + 1) {
                for (int a : new int[] {-1, 0, 1, 2}) {
                    everyAct(hand, row, a);
                }
            }
        }
    }

    private static void everyAct(int hand, int row, int a) {
        boolean nothing = row == NONE;
        boolean bare = hand == NONE;
        boolean noPlace = a < 0 || a > 1;
        boolean misfit = !bare && !nothing && !goes(hand, row);
        first(TAKE, hand, row, a, 0, cause(nothing, NOTHING), cause(noPlace, PLACE));
        for (int k = 0; k < 8; k++) {
            boolean unread = !nothing && !goes(row, k);
            first(READ, hand, row, a, k, cause(nothing, NOTHING), cause(noPlace, PLACE), cause(unread, MISFIT));
        }
        first(LAY, hand, row, a, 0,
            cause(nothing, NOTHING), cause(bare, BARE), cause(noPlace, PLACE), cause(misfit, MISFIT));
        first(SWAP, hand, row, a, 0,
            cause(nothing, NOTHING), cause(noPlace, PLACE), cause(bare, BARE), cause(misfit, MISFIT));
        boolean ownMisfit = !bare && !goes(hand, 5);
        boolean rowMisfit = !nothing && !goes(row, 5);
        first(ADD, hand, row, a, 0, cause(bare, BARE), cause(ownMisfit, MISFIT), cause(nothing, NOTHING),
            cause(noPlace, PLACE), cause(rowMisfit, MISFIT));
        first(COUNT, hand, row, a, 0, cause(nothing, NOTHING));
        first(WHILE, hand, row, a, 0, cause(nothing, NOTHING));
    }

    private static int cause(boolean so, int cause) {
        return so ? cause : DONE;
    }

    private static void first(int what, int hand, int row, int a, int k, int... causes) {
        RelayTrays x = new RelayTrays();
        if (row != NONE) {
            x.make(2, row, 2);
        }
        if (hand != NONE) {
            x.give(hand, 1);
        }
        int due = DONE;
        for (int i = causes.length - 1; i >= 0; i--) {
            due = causes[i] == DONE ? due : causes[i];
        }
        x.step(what, 2, a, k, 1);
        String told = "act " + what + ", hand of kind " + hand + ", row of kind " + row + ", a " + a + ", k " + k;
        // a WHILE at place 0 that goes on at act 0 goes on for ever
        int answer = due != DONE ? -10 - due : what == WHILE && a == 0 ? -3 : 1;
        DUE.due(told, x.run(), answer);
        for (int cause = NOTHING; cause <= WIDE; cause++) {
            DUE.due("count(" + (10 + cause) + ") behind " + told, x.count(10 + cause), cause == due ? 1 : 0);
        }
    }
}
