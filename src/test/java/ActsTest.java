/** The acts 0 to 13: what each does, its causes in their order, and that a cause changes nothing. */
public final class ActsTest {
    private static final Due DUE = new Due();
    private static final int NONE = -4;
    private static final int NOTHING = -11, BARE = -12, PLACE = -13, MISFIT = -14, SIZE = -15, WIDE = -16;

    private static final int TAKE = 0, READ = 1, LAY = 2, COUNT = 3, MAKE = 4, PASS = 5, CLEAR = 6;
    private static final int GO = 7, SET = 8, WHILE = 9, ADD = 10, SWAP = 11, JUMP = 12, DROP = 13;

    public static void main(String[] args) {
        take();
        read();
        lay();
        countPlaces();
        make();
        pass();
        clear();
        goAndSet();
        whilePlace();
        add();
        addGoesRound();
        swap();
        jump();
        drop();
        thePlaceGoesRound();
        DUE.end("ActsTest");
    }

    /** One act by itself; one that meets a cause ends the run by it. */
    private static int act(RelayTrays x, int what, int tray, int a, int kind) {
        x.clear();
        x.step(what, tray, a, kind, -1);
        return x.run();
    }

    /** Tray 0 has bytes, 1 floats, 2 truths, 3 longs, 4 chars, each 2 places; tray 7 has nothing. */
    private static RelayTrays laidOut() {
        RelayTrays x = new RelayTrays();
        x.make(0, 1, 2);
        x.put(0, 0, 1, -5);
        x.put(0, 1, 1, 100);
        x.make(1, 6, 2);
        x.put(1, 0, 6, 0x40490fdbL);
        x.make(2, 0, 2);
        x.put(2, 1, 0, 1);
        x.make(3, 5, 2);
        x.put(3, 0, 5, 1L << 40);
        x.put(3, 1, 5, Long.MAX_VALUE);
        x.make(4, 3, 2);
        x.put(4, 0, 3, 65535);
        return x;
    }

    private static void handIs(RelayTrays x, int kind, long bits) {
        DUE.due("hand()", x.hand(), kind);
        if (kind != NONE) {
            DUE.due("seen() of the hand", x.seen(), bits);
        }
    }

    private static void thereIs(RelayTrays x, int tray, int i, int kind, long bits) {
        DUE.due("look(" + tray + ", " + i + ")", x.look(tray, i), kind);
        DUE.due("seen() of " + tray + ", " + i, x.seen(), bits);
    }

    private static void take() {
        RelayTrays x = laidOut();
        DUE.due("TAKE", act(x, TAKE, 0, 1, 7), 1);
        handIs(x, 1, 100);
        thereIs(x, 0, 1, 1, 100);
        DUE.due("TAKE where there is no row", act(x, TAKE, 7, 9, 0), NOTHING);
        DUE.due("TAKE at 2", act(x, TAKE, 0, 2, 0), PLACE);
        DUE.due("TAKE at -1", act(x, TAKE, 0, -1, 0), PLACE);
        handIs(x, 1, 100);
        DUE.due("TAKE of a truth, k is no matter", act(x, TAKE, 2, 1, 4), 1);
        handIs(x, 0, 1);
    }

    private static void read() {
        RelayTrays x = laidOut();
        DUE.due("READ of a byte as a long", act(x, READ, 0, 0, 5), 1);
        handIs(x, 5, -5);
        DUE.due("READ of a char as an int", act(x, READ, 4, 0, 4), 1);
        handIs(x, 4, 65535);
        DUE.due("READ of a float as a double", act(x, READ, 1, 0, 7), 1);
        handIs(x, 7, 0x400921fb60000000L);
        DUE.due("READ of a long as a float", act(x, READ, 3, 1, 6), 1);
        handIs(x, 6, 0x5f000000L);
        DUE.due("READ of a byte as a byte", act(x, READ, 0, 0, 1), 1);
        handIs(x, 1, -5);
        DUE.due("READ where there is no row", act(x, READ, 7, 9, 0), NOTHING);
        DUE.due("READ: PLACE ahead of MISFIT", act(x, READ, 0, 2, 0), PLACE);
        DUE.due("READ of a byte as a char", act(x, READ, 0, 0, 3), MISFIT);
        DUE.due("READ of a float as a long", act(x, READ, 1, 0, 5), MISFIT);
        DUE.due("READ of a truth as an int", act(x, READ, 2, 0, 4), MISFIT);
        DUE.due("READ of a byte as a truth", act(x, READ, 0, 0, 0), MISFIT);
        handIs(x, 1, -5);
        thereIs(x, 0, 0, 1, -5);
    }

    private static void lay() {
        RelayTrays x = laidOut();
        DUE.due("LAY: NOTHING ahead of BARE", act(x, LAY, 7, 9, 0), NOTHING);
        DUE.due("LAY: BARE ahead of PLACE", act(x, LAY, 0, 2, 0), BARE);
        DUE.due("LAY with a bare hand", act(x, LAY, 0, 0, 0), BARE);
        x.give(2, -300);
        DUE.due("LAY: PLACE ahead of MISFIT", act(x, LAY, 0, 2, 0), PLACE);
        DUE.due("LAY of a short among bytes", act(x, LAY, 0, 0, 0), MISFIT);
        thereIs(x, 0, 0, 1, -5);
        DUE.due("LAY of a short among longs", act(x, LAY, 3, 1, 0), 1);
        thereIs(x, 3, 1, 5, -300);
        DUE.due("LAY of a short among floats", act(x, LAY, 1, 1, 0), 1);
        thereIs(x, 1, 1, 6, (int) 0xc3960000L);
        handIs(x, 2, -300);
        x.give(0, 1);
        DUE.due("LAY of a truth among bytes", act(x, LAY, 0, 0, 0), MISFIT);
        DUE.due("LAY of a truth among truths", act(x, LAY, 2, 0, 0), 1);
        thereIs(x, 2, 0, 0, 1);
    }

    private static void countPlaces() {
        RelayTrays x = laidOut();
        DUE.due("COUNT", act(x, COUNT, 0, 99, 0), 1);
        handIs(x, 4, 2);
        x.make(0, 7, 0);
        DUE.due("COUNT of no places", act(x, COUNT, 0, 0, 0), 1);
        handIs(x, 4, 0);
        x.give(1, 3);
        DUE.due("COUNT where there is no row", act(x, COUNT, 7, 0, 0), NOTHING);
        handIs(x, 1, 3);
    }

    private static void make() {
        RelayTrays x = laidOut();
        act(x, PASS, 6, 0, 0);
        DUE.due("MAKE", act(x, MAKE, 0, 12, 7), 1);
        DUE.due("kind(0)", x.kind(0), 7);
        DUE.due("size(0)", x.size(0), 12);
        DUE.due("the row that lay there lies on the other tray still", x.kind(6), 1);
        DUE.due("same(0, 6)", x.same(0, 6), 0);
        thereIs(x, 0, 11, 7, 0);
        DUE.due("MAKE of 13 places", act(x, MAKE, 0, 13, 0), WIDE);
        DUE.due("MAKE of -1 places", act(x, MAKE, 0, -1, 0), SIZE);
        DUE.due("kind(0)", x.kind(0), 7);
        DUE.due("MAKE of 0 places", act(x, MAKE, 0, 0, 0), 1);
        DUE.due("size(0)", x.size(0), 0);
        DUE.due("rows made", x.count(0), 7);
        act(x, SET, 0, 5, 0);
        DUE.due("MAKE minds no point", act(x, MAKE, 0, 3, 4), 1);
        DUE.due("size(0)", x.size(0), 3);
        x.clear();
        x.step(MAKE, 5, 1, 4, -1);
        x.step(JUMP, 0, 0, 0, 0);
        for (int i = 0; i < 19; i++) {
            DUE.due("twenty rows made in a run that is spent", x.run(), -3);
        }
        DUE.due("rows made", x.count(0), 388);
        DUE.due("twelve rows more", x.run(), WIDE);
        DUE.due("begun()", x.begun(), 25);
        DUE.due("rows made", x.count(0), 400);
        DUE.due("MAKE: WIDE ahead of SIZE", act(x, MAKE, 0, -1, 0), WIDE);
    }

    private static void pass() {
        RelayTrays x = laidOut();
        DUE.due("PASS", act(x, PASS, 7, 3, 0), 1);
        DUE.due("same(3, 7)", x.same(3, 7), 1);
        DUE.due("PASS of tray 11 modulo 8", act(x, PASS, 6, 11, 0), 1);
        DUE.due("same(3, 6)", x.same(3, 6), 1);
        x.put(6, 1, 1, 7);
        thereIs(x, 3, 1, 5, 7);
        thereIs(x, 7, 1, 5, 7);
        DUE.due("PASS of tray -8 modulo 8", act(x, PASS, 6, -8, 0), 1);
        DUE.due("same(0, 6)", x.same(0, 6), 1);
        DUE.due("PASS of tray -7 modulo 8", act(x, PASS, 6, -7, 0), 1);
        DUE.due("same(1, 6)", x.same(1, 6), 1);
        DUE.due("PASS of the lowest int modulo 8", act(x, PASS, 6, Integer.MIN_VALUE, 0), 1);
        DUE.due("same(0, 6)", x.same(0, 6), 1);
        DUE.due("PASS of the highest int modulo 8", act(x, PASS, 6, Integer.MAX_VALUE, 0), 1);
        DUE.due("same(7, 6)", x.same(7, 6), 1);
        DUE.due("PASS of nothing", act(x, PASS, 6, 5, 0), 1);
        DUE.due("kind(6)", x.kind(6), NONE);
        DUE.due("PASS of a tray to itself", act(x, PASS, 0, 0, 0), 1);
        thereIs(x, 0, 1, 1, 100);
        DUE.due("no cause was met", x.count(11), 0);
    }

    private static void clear() {
        RelayTrays x = laidOut();
        act(x, PASS, 7, 0, 0);
        DUE.due("CLEAR", act(x, CLEAR, 0, 7, 7), 1);
        DUE.due("kind(0)", x.kind(0), NONE);
        DUE.due("kind(7)", x.kind(7), 1);
        DUE.due("point() behind CLEAR", x.point(), 0);
        DUE.due("CLEAR of nothing", act(x, CLEAR, 0, 0, 0), 1);
        DUE.due("rows made are counted still", x.count(0), 5);
    }

    private static void goAndSet() {
        RelayTrays x = new RelayTrays();
        DUE.due("GO", act(x, GO, 7, 5, 0), 1);
        DUE.due("GO", act(x, GO, 7, -7, 0), 1);
        DUE.due("point()", x.point(), -2);
        DUE.due("SET", act(x, SET, 7, 9, 0), 1);
        DUE.due("point()", x.point(), 9);
        DUE.due("GO round", act(x, GO, 0, Integer.MAX_VALUE, 0), 1);
        DUE.due("point()", x.point(), Integer.MIN_VALUE + 8);
    }

    private static void whilePlace() {
        RelayTrays x = laidOut();
        x.step(WHILE, 0, 2, 0, -1);
        x.step(DROP, 0, 0, 0, 0);
        x.step(SET, 0, 1, 0, 0);
        DUE.due("WHILE at a place", x.run(), 2);
        DUE.due("WHILE at the last place", x.run(), 2);
        x.alter(2, SET, 0, 2, 0, 0);
        DUE.due("WHILE at the last place", x.run(), 2);
        DUE.due("WHILE behind the last place", x.run(), 3);
        x.alter(2, SET, 0, -1, 0, 0);
        DUE.due("WHILE behind the last place", x.run(), 3);
        DUE.due("WHILE ahead of the first place", x.run(), 3);
        x.alter(0, WHILE, 7, 2, 0, -1);
        DUE.due("WHILE where there is no row", x.run(), NOTHING);
        x.alter(0, WHILE, 7, 1, 0, 2);
        DUE.due("WHILE where there is no row goes on at e", x.run(), 2);
        x.alter(0, SET, 0, 0, 0, 0);
        x.alter(1, WHILE, 0, 77, 0, 0);
        DUE.due("WHILE that goes on at no act", x.run(), 2);
        x.alter(1, WHILE, 0, -1, 0, 0);
        DUE.due("WHILE that goes on at no act", x.run(), 2);
        DUE.due("runs over by a cause", x.count(3), 1);
        x.make(0, 1, 0);
        DUE.due("WHILE without places", x.run(), 3);
    }

    private static void add() {
        RelayTrays x = laidOut();
        DUE.due("ADD: BARE ahead of NOTHING", act(x, ADD, 7, 9, 0), BARE);
        x.give(6, 0x3f800000L);
        DUE.due("ADD: its own MISFIT ahead of NOTHING", act(x, ADD, 7, 9, 0), MISFIT);
        x.give(7, 0);
        DUE.due("ADD to a double", act(x, ADD, 3, 0, 0), MISFIT);
        x.give(0, 1);
        DUE.due("ADD to a truth", act(x, ADD, 3, 0, 0), MISFIT);
        handIs(x, 0, 1);
        x.give(1, -128);
        DUE.due("ADD where there is no row", act(x, ADD, 7, 9, 0), NOTHING);
        DUE.due("ADD: PLACE ahead of the row's MISFIT", act(x, ADD, 1, 2, 0), PLACE);
        DUE.due("ADD of a float", act(x, ADD, 1, 0, 0), MISFIT);
        DUE.due("ADD of a truth", act(x, ADD, 2, 0, 0), MISFIT);
        handIs(x, 1, -128);
        DUE.due("ADD of a byte to a byte", act(x, ADD, 0, 0, 0), 1);
        handIs(x, 5, -133);
        DUE.due("ADD of a char to a long", act(x, ADD, 4, 0, 0), 1);
        handIs(x, 5, 65402);
        x.give(3, 65535);
        DUE.due("ADD of a long to a char", act(x, ADD, 3, 0, 7), 1);
        handIs(x, 5, 65535 + (1L << 40));
        thereIs(x, 3, 0, 5, 1L << 40);
    }

    private static void addGoesRound() {
        RelayTrays x = laidOut();
        x.give(4, 1);
        DUE.due("ADD that goes round", act(x, ADD, 3, 1, 0), 1);
        handIs(x, 5, Long.MIN_VALUE);
        x.give(4, Integer.MAX_VALUE);
        x.make(0, 4, 1);
        x.put(0, 0, 4, Integer.MAX_VALUE);
        DUE.due("ADD of ints goes round as longs do", act(x, ADD, 0, 0, 0), 1);
        handIs(x, 5, 2L * Integer.MAX_VALUE);
    }

    private static void swap() {
        RelayTrays x = laidOut();
        DUE.due("SWAP: NOTHING ahead of BARE", act(x, SWAP, 7, 9, 0), NOTHING);
        DUE.due("SWAP: PLACE ahead of BARE", act(x, SWAP, 0, 2, 0), PLACE);
        DUE.due("SWAP with a bare hand", act(x, SWAP, 0, 0, 0), BARE);
        x.give(4, 77);
        DUE.due("SWAP of an int among bytes", act(x, SWAP, 0, 0, 0), MISFIT);
        handIs(x, 4, 77);
        thereIs(x, 0, 0, 1, -5);
        DUE.due("SWAP of an int among longs", act(x, SWAP, 3, 0, 0), 1);
        handIs(x, 5, 1L << 40);
        thereIs(x, 3, 0, 5, 77);
        DUE.due("SWAP of a long among floats", act(x, SWAP, 1, 0, 0), 1);
        handIs(x, 6, 0x40490fdbL);
        thereIs(x, 1, 0, 6, 0x53800000L);
        DUE.due("SWAP: PLACE ahead of MISFIT", act(x, SWAP, 0, -1, 0), PLACE);
    }

    private static void jump() {
        RelayTrays x = new RelayTrays();
        x.step(JUMP, 0, 2, 0, 0);
        x.step(SET, 0, 5, 0, 0);
        x.step(GO, 0, 1, 0, 0);
        DUE.due("JUMP over an act", x.run(), 2);
        DUE.due("point()", x.point(), 1);
        for (int none : new int[] {3, 40, -1, Integer.MIN_VALUE, Integer.MAX_VALUE}) {
            x.alter(0, JUMP, 0, none, 0, 0);
            DUE.due("JUMP to act " + none, x.run(), 1);
        }
        DUE.due("runs over by a cause", x.count(3), 0);
        DUE.due("where()", x.where(), NONE);
    }

    private static void drop() {
        RelayTrays x = new RelayTrays();
        x.give(4, 5);
        DUE.due("DROP", act(x, DROP, 0, 0, 0), 1);
        handIs(x, NONE, 0);
        DUE.due("DROP of none", act(x, DROP, 0, 0, 0), 1);
        DUE.due("give() behind DROP", x.give(4, 5), NONE);
    }

    private static void thePlaceGoesRound() {
        RelayTrays x = laidOut();
        act(x, SET, 0, Integer.MIN_VALUE, 0);
        DUE.due("TAKE at a place that goes round to 1", act(x, TAKE, 0, Integer.MIN_VALUE + 1, 0), 1);
        handIs(x, 1, 100);
        act(x, SET, 0, Integer.MAX_VALUE, 0);
        DUE.due("TAKE behind the highest int", act(x, TAKE, 0, 1, 0), PLACE);
        act(x, SET, 0, 4, 0);
        DUE.due("READ at the point and a", act(x, READ, 0, -4, 4), 1);
        handIs(x, 4, -5);
        DUE.due("LAY at the point and a", act(x, LAY, 3, -3, 0), 1);
        thereIs(x, 3, 1, 5, -5);
        DUE.due("ADD at the point and a", act(x, ADD, 0, -3, 0), 1);
        handIs(x, 5, 95);
        DUE.due("SWAP at the point and a", act(x, SWAP, 3, -4, 0), 1);
        handIs(x, 5, 1L << 40);
        DUE.due("LAY at a alone is no place", act(x, LAY, 3, 0, 0), PLACE);
        DUE.due("ADD at a alone is no place", act(x, ADD, 3, 0, 0), PLACE);
        DUE.due("SWAP at a alone is no place", act(x, SWAP, 3, 0, 0), PLACE);
        DUE.due("READ at a alone is no place", act(x, READ, 3, 0, 5), PLACE);
    }
}
