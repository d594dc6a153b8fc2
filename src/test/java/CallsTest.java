/** Promises 1 to 13, 15 and 18: what each call answers by itself, its edges and wrong inputs. */
public final class CallsTest {
    private static final Due DUE = new Due();
    private static final int BAD = -1, FULL = -2, NONE = -4;
    private static final int NOTHING = -11, PLACE = -13, MISFIT = -14, SIZE = -15, WIDE = -16;
    private static final int[] NO_EIGHT = {-1, 8, 9, -8, Integer.MIN_VALUE, Integer.MAX_VALUE};

    public static void main(String[] args) {
        aNewObject();
        make();
        makeEdges();
        makeCountsRowsOverAll();
        put();
        putCauses();
        look();
        give();
        handAndSeen();
        seenIsWhatItWasThen();
        kindAndSize();
        same();
        step();
        stepIsFull();
        alter();
        clear();
        point();
        count();
        objectsShareNothing();
        DUE.end("CallsTest");
    }

    private static void aNewObject() {
        RelayTrays x = new RelayTrays();
        for (int tray = 0; tray < 8; tray++) {
            DUE.due("kind of a new object's tray " + tray, x.kind(tray), NONE);
            DUE.due("size of a new object's tray " + tray, x.size(tray), NONE);
        }
        DUE.due("hand() of a new object", x.hand(), NONE);
        DUE.due("seen() of a new object", x.seen(), 0);
        DUE.due("point() of a new object", x.point(), 0);
        DUE.due("begun() of a new object", x.begun(), 0);
        DUE.due("where() of a new object", x.where(), NONE);
        for (int what = 0; what <= 4; what++) {
            DUE.due("count(" + what + ") of a new object", x.count(what), 0);
        }
        for (int what = 11; what <= 16; what++) {
            DUE.due("count(" + what + ") of a new object", x.count(what), 0);
        }
        DUE.due("clear() of a new object", x.clear(), 0);
        DUE.due("alter(0, ..) of a new object", x.alter(0, 0, 0, 0, 0, 0), BAD);
    }

    private static void make() {
        RelayTrays x = new RelayTrays();
        for (int kind = 0; kind < 8; kind++) {
            DUE.due("make(" + kind + ", " + kind + ", 3)", x.make(kind, kind, 3), 1);
            DUE.due("kind(" + kind + ")", x.kind(kind), kind);
            DUE.due("size(" + kind + ")", x.size(kind), 3);
            for (int i = 0; i < 3; i++) {
                DUE.due("look at a new row", x.look(kind, i), kind);
                DUE.due("seen() of a new row", x.seen(), 0);
            }
        }
        DUE.due("rows made", x.count(0), 8);
        x.put(4, 0, 4, 77);
        DUE.due("make in the place of another row", x.make(4, 4, 2), 1);
        x.look(4, 0);
        DUE.due("seen() of the row that came", x.seen(), 0);
        DUE.due("size of the row that came", x.size(4), 2);
    }

    private static void makeEdges() {
        RelayTrays x = new RelayTrays();
        DUE.due("make of 12 places", x.make(0, 1, 12), 1);
        DUE.due("make of 13 places", x.make(0, 1, 13), WIDE);
        DUE.due("make of very many places", x.make(0, 1, Integer.MAX_VALUE), WIDE);
        DUE.due("make of 0 places", x.make(1, 1, 0), 1);
        DUE.due("make of -1 places", x.make(1, 1, -1), SIZE);
        DUE.due("make of the fewest places", x.make(1, 1, Integer.MIN_VALUE), SIZE);
        DUE.due("size behind WIDE", x.size(0), 12);
        DUE.due("size behind SIZE", x.size(1), 0);
        for (int wrong : NO_EIGHT) {
            DUE.due("make on tray " + wrong, x.make(wrong, 1, 1), BAD);
            DUE.due("make of kind " + wrong, x.make(0, wrong, 1), BAD);
            DUE.due("make of kind " + wrong + ", too wide", x.make(0, wrong, 13), BAD);
            DUE.due("make on tray " + wrong + ", too small", x.make(wrong, 1, -1), BAD);
        }
        DUE.due("rows made", x.count(0), 2);
        DUE.due("SIZE met", x.count(15), 2);
        DUE.due("WIDE met", x.count(16), 2);
    }

    private static void makeCountsRowsOverAll() {
        RelayTrays x = new RelayTrays();
        for (int i = 0; i < 399; i++) {
            x.make(i % 8, i % 8, i % 13);
        }
        DUE.due("rows made", x.count(0), 399);
        DUE.due("SIZE with one row left", x.make(0, 4, -1), SIZE);
        DUE.due("the 400th row", x.make(0, 4, 5), 1);
        DUE.due("the 401st row", x.make(0, 5, 1), WIDE);
        DUE.due("WIDE ahead of SIZE", x.make(0, 5, -1), WIDE);
        DUE.due("BAD ahead of WIDE", x.make(8, 5, 1), BAD);
        DUE.due("rows made", x.count(0), 400);
        DUE.due("kind of the 400th row", x.kind(0), 4);
        DUE.due("WIDE met", x.count(16), 2);
    }

    private static void put() {
        RelayTrays x = new RelayTrays();
        x.make(2, 4, 12);
        DUE.due("put at the first place", x.put(2, 0, 4, 5), 1);
        DUE.due("put at the last place", x.put(2, 11, 4, -6), 1);
        DUE.due("put of a byte of more bits", x.put(2, 1, 1, 0x1ffL), 1);
        DUE.due("put of a char of more bits", x.put(2, 2, 3, -1), 1);
        seenAt(x, 2, 0, 4, 5);
        seenAt(x, 2, 11, 4, -6);
        seenAt(x, 2, 1, 4, -1);
        seenAt(x, 2, 2, 4, 65535);
        seenAt(x, 2, 3, 4, 0);
        x.make(0, 0, 1);
        DUE.due("put of a truth of more bits", x.put(0, 0, 0, 6), 1);
        seenAt(x, 0, 0, 0, 0);
        DUE.due("put of a truth of more bits", x.put(0, 0, 0, -1), 1);
        seenAt(x, 0, 0, 0, 1);
        DUE.due("the hand is not touched", x.hand(), NONE);
    }

    private static void putCauses() {
        RelayTrays x = new RelayTrays();
        x.make(2, 3, 2);
        x.put(2, 0, 3, 9);
        DUE.due("put where there is no row", x.put(1, 0, 3, 1), NOTHING);
        DUE.due("put where there is no row, nor a place", x.put(1, -1, 3, 1), NOTHING);
        DUE.due("put at -1", x.put(2, -1, 3, 1), PLACE);
        DUE.due("put at 2", x.put(2, 2, 3, 1), PLACE);
        DUE.due("put at the lowest int", x.put(2, Integer.MIN_VALUE, 3, 1), PLACE);
        DUE.due("put at the highest int", x.put(2, Integer.MAX_VALUE, 3, 1), PLACE);
        DUE.due("PLACE ahead of MISFIT", x.put(2, 2, 7, 1), PLACE);
        DUE.due("put of a byte among chars", x.put(2, 0, 1, 1), MISFIT);
        for (int wrong : NO_EIGHT) {
            DUE.due("put on tray " + wrong, x.put(wrong, 0, 3, 1), BAD);
            DUE.due("put of kind " + wrong, x.put(2, 0, wrong, 1), BAD);
            DUE.due("put of kind " + wrong + " where there is no row", x.put(1, 0, wrong, 1), BAD);
        }
        seenAt(x, 2, 0, 3, 9);
        seenAt(x, 2, 1, 3, 0);
        DUE.due("NOTHING met", x.count(11), 2);
        DUE.due("PLACE met", x.count(13), 5);
        DUE.due("MISFIT met", x.count(14), 1);
    }

    private static void look() {
        RelayTrays x = new RelayTrays();
        x.make(7, 5, 2);
        x.put(7, 1, 5, Long.MIN_VALUE);
        seenAt(x, 7, 1, 5, Long.MIN_VALUE);
        DUE.due("look where there is no row", x.look(6, 0), NOTHING);
        DUE.due("look at 2", x.look(7, 2), PLACE);
        DUE.due("look at -1", x.look(7, -1), PLACE);
        for (int wrong : NO_EIGHT) {
            DUE.due("look on tray " + wrong, x.look(wrong, 0), BAD);
        }
        DUE.due("seen() behind looks that saw nothing", x.seen(), Long.MIN_VALUE);
        DUE.due("NOTHING met", x.count(11), 1);
        DUE.due("PLACE met", x.count(13), 2);
        x.make(7, 5, 0);
        DUE.due("look at a row without places", x.look(7, 0), PLACE);
    }

    private static void give() {
        RelayTrays x = new RelayTrays();
        DUE.due("the first give()", x.give(3, 0x12345L), NONE);
        DUE.due("give() behind it", x.give(0, 3), 3);
        DUE.due("give() behind that", x.give(5, -1), 0);
        for (int wrong : NO_EIGHT) {
            DUE.due("give of kind " + wrong, x.give(wrong, 1), BAD);
        }
        DUE.due("hand()", x.hand(), 5);
        DUE.due("seen()", x.seen(), -1);
        DUE.due("give() of a byte", x.give(1, 0x80), 5);
        DUE.due("hand()", x.hand(), 1);
        DUE.due("seen() of a byte, with its sign", x.seen(), -128);
    }

    private static void handAndSeen() {
        RelayTrays x = new RelayTrays();
        x.give(2, 0xffff);
        DUE.due("seen() ahead of hand()", x.seen(), 0);
        DUE.due("hand()", x.hand(), 2);
        DUE.due("seen()", x.seen(), -1);
        x.step(13, 0, 0, 0, 0);
        DUE.due("DROP", x.run(), 1);
        DUE.due("hand() behind DROP", x.hand(), NONE);
        DUE.due("seen() behind a bare hand()", x.seen(), -1);
    }

    private static void seenIsWhatItWasThen() {
        RelayTrays x = new RelayTrays();
        x.make(0, 4, 1);
        x.put(0, 0, 4, 10);
        x.look(0, 0);
        x.put(0, 0, 4, 20);
        DUE.due("seen() behind a later put", x.seen(), 10);
        x.give(4, 30);
        DUE.due("seen() behind a later give", x.seen(), 10);
        x.hand();
        x.give(4, 40);
        DUE.due("seen() of the hand behind a later give", x.seen(), 30);
        x.make(0, 4, 1);
        DUE.due("seen() behind a later make", x.seen(), 30);
    }

    private static void kindAndSize() {
        RelayTrays x = new RelayTrays();
        x.make(0, 0, 0);
        x.make(7, 7, 12);
        DUE.due("kind(0)", x.kind(0), 0);
        DUE.due("size(0)", x.size(0), 0);
        DUE.due("kind(7)", x.kind(7), 7);
        DUE.due("size(7)", x.size(7), 12);
        DUE.due("kind(1)", x.kind(1), NONE);
        DUE.due("size(1)", x.size(1), NONE);
        for (int wrong : NO_EIGHT) {
            DUE.due("kind(" + wrong + ")", x.kind(wrong), BAD);
            DUE.due("size(" + wrong + ")", x.size(wrong), BAD);
        }
        DUE.due("NOTHING is not met by them", x.count(11), 0);
    }

    private static void same() {
        RelayTrays x = new RelayTrays();
        DUE.due("same: nothing on both", x.same(0, 7), 1);
        x.make(0, 4, 2);
        x.make(1, 4, 2);
        DUE.due("same: two rows that are alike", x.same(0, 1), 0);
        DUE.due("same: a row, and nothing", x.same(0, 2), 0);
        DUE.due("same: nothing, and a row", x.same(2, 0), 0);
        DUE.due("same: one tray", x.same(0, 0), 1);
        DUE.due("same: one tray with nothing", x.same(3, 3), 1);
        x.step(5, 2, 0, 0, 0);
        x.run();
        DUE.due("same: one row on two trays", x.same(0, 2), 1);
        DUE.due("same: one row on two trays", x.same(2, 0), 1);
        x.put(0, 1, 4, 8);
        seenAt(x, 2, 1, 4, 8);
        for (int wrong : NO_EIGHT) {
            DUE.due("same(" + wrong + ", 0)", x.same(wrong, 0), BAD);
            DUE.due("same(0, " + wrong + ")", x.same(0, wrong), BAD);
            DUE.due("same of no trays", x.same(wrong, wrong), BAD);
        }
    }

    private static void step() {
        RelayTrays x = new RelayTrays();
        DUE.due("step of what -1", x.step(-1, 0, 0, 0, 0), BAD);
        DUE.due("step of what 14", x.step(14, 0, 0, 0, 0), BAD);
        DUE.due("step of the lowest what", x.step(Integer.MIN_VALUE, 0, 0, 0, 0), BAD);
        DUE.due("step of the highest what", x.step(Integer.MAX_VALUE, 0, 0, 0, 0), BAD);
        for (int wrong : NO_EIGHT) {
            DUE.due("step on tray " + wrong, x.step(8, wrong, 0, 0, 0), BAD);
            DUE.due("step of kind " + wrong, x.step(8, 0, 0, wrong, 0), BAD);
        }
        DUE.due("acts", x.count(1), 0);
        for (int what = 0; what <= 13; what++) {
            DUE.due("step of what " + what, x.step(what, what % 8, Integer.MIN_VALUE, 7, Integer.MAX_VALUE), what + 1);
        }
        DUE.due("acts", x.count(1), 14);
    }

    private static void stepIsFull() {
        RelayTrays x = new RelayTrays();
        for (int i = 1; i <= 40; i++) {
            DUE.due("step " + i, x.step(7, 0, i, 0, 0), i);
        }
        DUE.due("step 41", x.step(8, 0, 0, 0, 0), FULL);
        DUE.due("BAD ahead of FULL", x.step(14, 0, 0, 0, 0), BAD);
        DUE.due("acts", x.count(1), 40);
        DUE.due("run() of 40 acts", x.run(), 40);
        DUE.due("point()", x.point(), 820);
        DUE.due("alter of the last act", x.alter(39, 13, 0, 0, 0, 0), 7);
        DUE.due("alter behind the last act", x.alter(40, 13, 0, 0, 0, 0), BAD);
        DUE.due("clear()", x.clear(), 40);
        DUE.due("step behind clear()", x.step(7, 0, 1, 0, 0), 1);
    }

    private static void alter() {
        RelayTrays x = new RelayTrays();
        x.step(8, 0, 5, 0, 0);
        x.step(7, 0, 1, 0, 0);
        DUE.due("alter(0, ..)", x.alter(0, 7, 0, 100, 0, 0), 8);
        DUE.due("alter(1, ..)", x.alter(1, 13, 0, 0, 0, 0), 7);
        DUE.due("run()", x.run(), 2);
        DUE.due("point()", x.point(), 100);
        for (int wrong : new int[] {-1, 2, 39, 40, Integer.MIN_VALUE, Integer.MAX_VALUE}) {
            DUE.due("alter(" + wrong + ", ..)", x.alter(wrong, 0, 0, 0, 0, 0), BAD);
        }
        DUE.due("alter to what -1", x.alter(0, -1, 0, 0, 0, 0), BAD);
        DUE.due("alter to what 14", x.alter(0, 14, 0, 0, 0, 0), BAD);
        for (int wrong : NO_EIGHT) {
            DUE.due("alter to tray " + wrong, x.alter(0, 8, wrong, 0, 0, 0), BAD);
            DUE.due("alter to kind " + wrong, x.alter(0, 8, 0, 0, wrong, 0), BAD);
        }
        DUE.due("run() of what is as it was", x.run(), 2);
        DUE.due("point()", x.point(), 200);
        DUE.due("acts", x.count(1), 2);
        x.clear();
        DUE.due("alter of an act that is cleared", x.alter(0, 0, 0, 0, 0, 0), BAD);
    }

    private static void clear() {
        RelayTrays x = new RelayTrays();
        x.make(0, 4, 1);
        x.give(4, 7);
        x.step(8, 0, 3, 0, 0);
        x.step(2, 0, -3, 0, -1);
        x.run();
        DUE.due("clear()", x.clear(), 2);
        DUE.due("clear() once more", x.clear(), 0);
        DUE.due("acts", x.count(1), 0);
        DUE.due("run() of no acts", x.run(), 0);
        DUE.due("the point is not cleared", x.point(), 3);
        DUE.due("the trays are not cleared", x.kind(0), 4);
        DUE.due("the hand is not cleared", x.hand(), 4);
        seenAt(x, 0, 0, 4, 7);
    }

    private static void point() {
        RelayTrays x = new RelayTrays();
        x.step(8, 0, Integer.MIN_VALUE, 0, 0);
        x.run();
        DUE.due("point()", x.point(), Integer.MIN_VALUE);
        x.alter(0, 7, 0, -1, 0, 0);
        x.run();
        DUE.due("point() that went round", x.point(), Integer.MAX_VALUE);
    }

    private static void count() {
        RelayTrays x = new RelayTrays();
        for (int wrong : new int[] {-1, 5, 6, 9, 10, 17, 18, -11, Integer.MIN_VALUE, Integer.MAX_VALUE}) {
            DUE.due("count(" + wrong + ")", x.count(wrong), BAD);
        }
        x.make(0, 4, 1);
        x.step(8, 0, 0, 0, 0);
        x.step(8, 0, 0, 0, 0);
        x.run();
        DUE.due("count(0)", x.count(0), 1);
        DUE.due("count(1)", x.count(1), 2);
        DUE.due("count(2)", x.count(2), 1);
        DUE.due("count(3)", x.count(3), 0);
        DUE.due("count(4)", x.count(4), 0);
        x.look(1, 0);
        DUE.due("a cause of look() is none of a run", x.where(), NONE);
    }

    private static void objectsShareNothing() {
        RelayTrays x = new RelayTrays();
        RelayTrays y = new RelayTrays();
        x.make(0, 4, 1);
        x.give(4, 1);
        x.step(8, 0, 9, 0, 0);
        x.run();
        x.hand();
        DUE.due("kind(0) of the other object", y.kind(0), NONE);
        DUE.due("hand() of the other object", y.hand(), NONE);
        DUE.due("point() of the other object", y.point(), 0);
        DUE.due("run() of the other object", y.run(), 0);
        DUE.due("seen() of the other object", y.seen(), 0);
        DUE.due("count(0) of the other object", y.count(0), 0);
    }

    private static void seenAt(RelayTrays x, int tray, int i, int kind, long bits) {
        DUE.due("look(" + tray + ", " + i + ")", x.look(tray, i), kind);
        DUE.due("seen() at " + tray + ", " + i, x.seen(), bits);
    }
}
