/** "Terms", sentence by sentence: the kinds, their bits, the rows, the trays, the order and the place of an act. */
public final class TermsTest {
    private static final Due DUE = new Due();
    private static final int NONE = -4, FULL = -2;
    private static final int PLACE = -13, MISFIT = -14, SIZE = -15, WIDE = -16;
    private static final int MIN = Integer.MIN_VALUE, MAX = Integer.MAX_VALUE;

    private static final int TAKE = 0, READ = 1, LAY = 2, MAKE = 4, PASS = 5, CLEAR = 6;
    private static final int GO = 7, SET = 8, WHILE = 9, ADD = 10, SWAP = 11;

    private static final long FLOAT_NO_NUMBER = 2143289344L, DOUBLE_NO_NUMBER = 9221120237041090560L;

    /** The kinds that each kind goes into, as the document lists them. */
    private static final String[] INTO = {"0", "124567", "24567", "34567", "4567", "567", "67", "7"};

    /** How 1 is told in each kind. */
    private static final long[] ONE = {1, 1, 1, 1, 1, 1, 0x3f800000L, 0x3ff0000000000000L};

    /** The ways on which a number of a kind goes into another. */
    private enum Way { PUT, READ, LAY, SWAP }

    public static void main(String[] args) {
        DUE.sentence("A KIND GOES INTO itself; 1 into 2, 4, 5, 6, 7; ..: the same number", TermsTest::whichGoesInto);
        DUE.sentence("0 goes into nothing else", TermsTest::truthsGoNowhereElse);
        DUE.sentence("(READ, ADD: that of the ROW into k, longs; ..)", TermsTest::whichIsAdded);
        DUE.sentence("the nearest one in 6 (of two as near the one whose last bit is 0)", TermsTest::nearestFloat);
        DUE.sentence("the nearest one in 7 (of two as near the one whose last bit is 0)", TermsTest::nearestDouble);
        DUE.sentence("6 into 7: the same number", TermsTest::floatsIntoDoubles);
        DUE.sentence("BITS of a number: its lowest 1, 8, 16, 16, 32, 64 bits", TermsTest::lowestBits);
        DUE.sentence("A number is told as a long by its BITS: of 1, 2, 4, 6 with their sign", TermsTest::signs);
        DUE.sentence("of 6, 7 those of the float (as an int), the double", TermsTest::bitsOfFloatsAndDoubles);
        DUE.sentence("NO NUMBER is told by 2143289344, whichever BITS were given", TermsTest::noNumberOfFloats);
        DUE.sentence("NO NUMBER is told by 9221120237041090560, whichever BITS ..", TermsTest::noNumberOfDoubles);
        DUE.sentence("(one of 6 goes into 7 as that one)", TermsTest::noNumberOfFloatsIntoDoubles);
        DUE.sentence("TRAYS 0 .. 7 have a ROW, or NOTHING (at first)", TermsTest::eightTrays);
        DUE.sentence("A ROW has a KIND and 0 .. 12 PLACES from 0 on .. (0 at first)", TermsTest::placesOfARow);
        DUE.sentence("One ROW may lie on several TRAYS: .. done on all of them", TermsTest::oneRowOnAllTrays);
        DUE.sentence("(what is done to a TRAY is done on no other)", TermsTest::otherTraysKeepTheRow);
        DUE.sentence("THE HAND has a number of a KIND, or none (at first)", TermsTest::handAtFirst);
        DUE.sentence("THE POINT is an int (0 at first)", TermsTest::pointIsAnyInt);
        DUE.sentence("THE ORDER has up to 40 ACTS, numbered from 0", TermsTest::fortyActs);
        DUE.sentence("THE PLACE of an ACT is .. THE POINT + a", TermsTest::placeIsPointAndA);
        DUE.sentence("THE POINT + a (as ints go round)", TermsTest::placeGoesRound);
        DUE.sentence("WHILE: is THE POINT the number of a PLACE", TermsTest::whileMindsThePointAlone);
        DUE.end("TermsTest");
    }

    // ---- kinds

    private static void whichGoesInto() {
        for (Way way : Way.values()) {
            for (int from = 0; from < 8; from++) {
                for (int to = 0; to < 8; to++) {
                    boolean goes = INTO[from].indexOf('0' + to) >= 0;
                    goes(way, from, ONE[from], to, goes ? ONE[to] : MISFIT);
                }
            }
        }
    }

    private static void truthsGoNowhereElse() {
        for (Way way : Way.values()) {
            for (int other = 1; other < 8; other++) {
                goes(way, 0, 1, other, MISFIT);
                goes(way, 0, 0, other, MISFIT);
                goes(way, other, ONE[other], 0, MISFIT);
                goes(way, other, 0, 0, MISFIT);
            }
            goes(way, 0, 1, 0, 1);
            goes(way, 0, 0, 0, 0);
        }
    }

    private static void whichIsAdded() {
        for (int own = 0; own < 8; own++) {
            for (int kind = 0; kind < 8; kind++) {
                RelayTrays x = new RelayTrays();
                x.make(0, kind, 1);
                x.put(0, 0, kind, ONE[kind]);
                x.give(own, ONE[own]);
                boolean goes = INTO[own].indexOf('5') >= 0 && INTO[kind].indexOf('5') >= 0;
                String add = "ADD of kind " + kind + " to kind " + own;
                DUE.due(add, act(x, ADD, 0, 0, 0), goes ? 1 : MISFIT);
                DUE.due("hand() behind " + add, x.hand(), goes ? 5 : own);
                DUE.due("seen() behind " + add, x.seen(), goes ? 2 : ONE[own]);
            }
        }
    }

    /** A number goes into a kind on a way; due is how it is told there, or MISFIT. */
    private static void goes(Way way, int from, long bits, int to, long due) {
        RelayTrays x = new RelayTrays();
        x.make(0, way == Way.READ ? from : to, 1);
        x.put(0, 0, from, way == Way.READ ? bits : 0);
        x.give(from, way == Way.READ ? 0 : bits);
        String told = way + " of kind " + from + ", bits " + bits + ", into kind " + to;
        int answer = switch (way) {
            case PUT -> x.put(0, 0, from, bits);
            case READ -> act(x, READ, 0, 0, to);
            case LAY -> act(x, LAY, 0, 0, 0);
            default -> act(x, SWAP, 0, 0, 0);
        };
        DUE.due(told, answer, due == MISFIT ? MISFIT : 1);
        if (due != MISFIT) {
            DUE.due("kind behind " + told, way == Way.READ ? x.hand() : x.look(0, 0), to);
            DUE.due("seen() behind " + told, x.seen(), due);
        }
    }

    // ---- the nearest float and double; the bits are written out, and Java's own cast must agree

    private static void nearestFloat() {
        nearestFloat(16777215L, 0x4b7fffff);
        nearestFloat(16777216L, 0x4b800000);
        nearestFloat(16777217L, 0x4b800000);
        nearestFloat(16777218L, 0x4b800001);
        nearestFloat(16777219L, 0x4b800002);
        nearestFloat(16777220L, 0x4b800002);
        nearestFloat(33554430L, 0x4bffffff);
        nearestFloat(33554431L, 0x4c000000);
        nearestFloat(33554433L, 0x4c000000);
        nearestFloat(33554434L, 0x4c000000);
        nearestFloat(33554435L, 0x4c000001);
        nearestFloat(33554437L, 0x4c000001);
        nearestFloat(33554438L, 0x4c000002);
        nearestFloat(33554439L, 0x4c000002);
        nearestFloat(2147483583L, 0x4effffff);
        nearestFloat(2147483584L, 0x4f000000);
        nearestFloat(2147483585L, 0x4f000000);
        nearestFloat(Integer.MAX_VALUE, 0x4f000000);
        // two roundings, first to a double, would miss these
        nearestFloat((1L << 60) + (1L << 36) - 1, 0x5d800000);
        nearestFloat((1L << 60) + (1L << 36), 0x5d800000);
        nearestFloat((1L << 60) + (1L << 36) + 1, 0x5d800001);
        nearestFloat((1L << 60) + (3L << 36) - 1, 0x5d800001);
        nearestFloat((1L << 60) + (3L << 36), 0x5d800002);
        nearestFloat((1L << 60) + (3L << 36) + 1, 0x5d800002);
        nearestFloat(Long.MAX_VALUE - (1L << 38), 0x5effffff);
        nearestFloat(Long.MAX_VALUE - (1L << 38) + 1, 0x5f000000);
        nearestFloat(Long.MAX_VALUE, 0x5f000000);
        for (Way way : Way.values()) {
            goes(way, 5, Long.MIN_VALUE, 6, (int) 0xdf000000L);
            goes(way, 4, Integer.MIN_VALUE, 6, (int) 0xcf000000L);
            goes(way, 5, 0, 6, 0);
            goes(way, 2, -32768, 6, (int) 0xc7000000L);
            goes(way, 3, 65535, 6, 0x477fff00L);
            goes(way, 1, -128, 6, (int) 0xc3000000L);
        }
    }

    private static void nearestFloat(long whole, int bits) {
        DUE.due("Java's own float of " + whole, Float.floatToIntBits((float) whole), bits);
        for (Way way : Way.values()) {
            goes(way, 5, whole, 6, bits);
            goes(way, 5, -whole, 6, bits | MIN);
            if (whole == (int) whole) {
                goes(way, 4, whole, 6, bits);
                goes(way, 4, -whole, 6, bits | MIN);
            }
        }
    }

    private static void nearestDouble() {
        nearestDouble((1L << 53) - 1, 0x433fffffffffffffL);
        nearestDouble(1L << 53, 0x4340000000000000L);
        nearestDouble((1L << 53) + 1, 0x4340000000000000L);
        nearestDouble((1L << 53) + 2, 0x4340000000000001L);
        nearestDouble((1L << 53) + 3, 0x4340000000000002L);
        nearestDouble((1L << 53) + 4, 0x4340000000000002L);
        nearestDouble((1L << 54) - 2, 0x434fffffffffffffL);
        nearestDouble((1L << 54) - 1, 0x4350000000000000L);
        nearestDouble((1L << 54) + 1, 0x4350000000000000L);
        nearestDouble((1L << 54) + 2, 0x4350000000000000L);
        nearestDouble((1L << 54) + 3, 0x4350000000000001L);
        nearestDouble((1L << 54) + 5, 0x4350000000000001L);
        nearestDouble((1L << 54) + 6, 0x4350000000000002L);
        nearestDouble(Long.MAX_VALUE - 512, 0x43dfffffffffffffL);
        nearestDouble(Long.MAX_VALUE - 511, 0x43e0000000000000L);
        nearestDouble(Long.MAX_VALUE, 0x43e0000000000000L);
        for (Way way : Way.values()) {
            goes(way, 5, Long.MIN_VALUE, 7, 0xc3e0000000000000L);
            goes(way, 4, Integer.MIN_VALUE, 7, 0xc1e0000000000000L);
            goes(way, 4, Integer.MAX_VALUE, 7, 0x41dfffffffc00000L);
            goes(way, 5, 0, 7, 0);
            goes(way, 2, -32768, 7, 0xc0e0000000000000L);
            goes(way, 3, 65535, 7, 0x40efffe000000000L);
            goes(way, 1, -128, 7, 0xc060000000000000L);
        }
    }

    private static void nearestDouble(long whole, long bits) {
        DUE.due("Java's own double of " + whole, Double.doubleToLongBits((double) whole), bits);
        for (Way way : Way.values()) {
            goes(way, 5, whole, 7, bits);
            goes(way, 5, -whole, 7, bits | Long.MIN_VALUE);
        }
    }

    private static void floatsIntoDoubles() {
        floatIntoDouble(0x00000000, 0x0000000000000000L);
        floatIntoDouble(0x00000001, 0x36a0000000000000L);
        floatIntoDouble(0x00000002, 0x36b0000000000000L);
        floatIntoDouble(0x00000003, 0x36b8000000000000L);
        floatIntoDouble(0x00400000, 0x3800000000000000L);
        floatIntoDouble(0x007fffff, 0x380fffffc0000000L);
        floatIntoDouble(0x00800000, 0x3810000000000000L);
        floatIntoDouble(0x00800001, 0x3810000020000000L);
        floatIntoDouble(0x3f800000, 0x3ff0000000000000L);
        floatIntoDouble(0x3dcccccd, 0x3fb99999a0000000L);
        floatIntoDouble(0x7f7fffff, 0x47efffffe0000000L);
        floatIntoDouble(0x7f800000, 0x7ff0000000000000L);
    }

    private static void floatIntoDouble(int bits, long due) {
        DUE.due("Java's own double of a float", Double.doubleToLongBits((double) Float.intBitsToFloat(bits)), due);
        for (Way way : Way.values()) {
            goes(way, 6, bits, 7, due);
            goes(way, 6, bits | MIN, 7, due | Long.MIN_VALUE);
        }
    }

    // ---- bits

    private static void lowestBits() {
        told(0, 0, 0);
        told(0, 1, 1);
        told(0, 2, 0);
        told(0, 3, 1);
        told(0, -1, 1);
        told(0, -2, 0);
        told(1, 0x100, 0);
        told(1, 0x17f, 127);
        told(1, Long.MIN_VALUE, 0);
        told(2, 0x10000, 0);
        told(2, 0x17fff, 32767);
        told(2, 255, 255);
        told(3, 0x10000, 0);
        told(3, 0x1ffff, 65535);
        told(3, -65536, 0);
        told(3, -65535, 1);
        told(4, 1L << 32, 0);
        told(4, (1L << 32) + 7, 7);
        told(4, 65536, 65536);
        told(5, 1L << 32, 1L << 32);
        told(5, Long.MAX_VALUE, Long.MAX_VALUE);
        told(6, 1L << 32, 0);
        told(6, 0x7fc00000_00000000L, 0);
        told(6, 0xabcdef01_3f800000L, 0x3f800000L);
        told(7, 1, 1);
        told(7, 1L << 32, 1L << 32);
    }

    private static void signs() {
        told(1, 127, 127);
        told(1, 128, -128);
        told(1, 255, -1);
        told(1, -128, -128);
        told(1, -129, 127);
        told(2, 32767, 32767);
        told(2, 32768, -32768);
        told(2, 65535, -1);
        told(2, -32768, -32768);
        told(2, -32769, 32767);
        told(3, 32767, 32767);
        told(3, 32768, 32768);
        told(3, 65535, 65535);
        told(3, -1, 65535);
        told(3, -32768, 32768);
        told(4, MAX, MAX);
        told(4, 1L << 31, MIN);
        told(4, (1L << 32) - 1, -1);
        told(4, MIN, MIN);
        told(4, MIN - 1L, MAX);
        told(5, Long.MIN_VALUE, Long.MIN_VALUE);
        told(5, -1, -1);
        told(6, 0x80000000L, MIN);
        told(6, 0xbf800000L, (int) 0xbf800000L);
        told(6, (int) 0xbf800000L, (int) 0xbf800000L);
    }

    private static void bitsOfFloatsAndDoubles() {
        told(6, 0x00000001L, 1);
        told(6, 0x7f7fffffL, 0x7f7fffffL);
        told(6, 0x7f800000L, 0x7f800000L);
        told(6, 0xff7fffffL, (int) 0xff7fffffL);
        told(6, 0xff800000L, (int) 0xff800000L);
        told(7, 0x8000000000000000L, Long.MIN_VALUE);
        told(7, 0x7fefffffffffffffL, 0x7fefffffffffffffL);
        told(7, 0x7ff0000000000000L, 0x7ff0000000000000L);
        told(7, 0xffefffffffffffffL, 0xffefffffffffffffL);
        told(7, 0xfff0000000000000L, 0xfff0000000000000L);
    }

    private static final long[] NO_FLOATS = {
        0x7f800001L, 0x7fbfffffL, 0x7fc00000L, 0x7fc00001L, 0x7fffffffL, 0xff800001L, 0xffc00000L, 0xffffffffL, -1L,
        0xabcdef01_7fc00001L, 0x00000001_ff800001L};
    private static final long[] NO_DOUBLES = {
        0x7ff0000000000001L, 0x7ff7ffffffffffffL, 0x7ff8000000000000L, 0x7ff8000000000001L, 0x7fffffffffffffffL,
        0xfff0000000000001L, 0xfff8000000000000L, -1L};

    private static void noNumberOfFloats() {
        for (long bits : NO_FLOATS) {
            told(6, bits, FLOAT_NO_NUMBER);
            for (Way way : Way.values()) {
                goes(way, 6, bits, 6, FLOAT_NO_NUMBER);
            }
        }
    }

    private static void noNumberOfDoubles() {
        for (long bits : NO_DOUBLES) {
            told(7, bits, DOUBLE_NO_NUMBER);
            for (Way way : Way.values()) {
                goes(way, 7, bits, 7, DOUBLE_NO_NUMBER);
            }
        }
    }

    private static void noNumberOfFloatsIntoDoubles() {
        for (long bits : NO_FLOATS) {
            for (Way way : Way.values()) {
                goes(way, 6, bits, 7, DOUBLE_NO_NUMBER);
            }
        }
    }

    /** The same number by give(), by put(), by TAKE and by SWAP as it was. */
    private static void told(int kind, long bits, long due) {
        RelayTrays x = new RelayTrays();
        String number = " of kind " + kind + ", bits " + bits;
        x.give(kind, bits);
        DUE.due("hand()" + number, x.hand(), kind);
        DUE.due("seen() in the hand" + number, x.seen(), due);
        x.make(7, kind, 12);
        DUE.due("put()" + number, x.put(7, 11, kind, bits), 1);
        DUE.due("look()" + number, x.look(7, 11), kind);
        DUE.due("seen() in a row" + number, x.seen(), due);
        x.give(kind, 0);
        DUE.due("TAKE" + number, act(x, TAKE, 7, 11, 0), 1);
        DUE.due("hand() behind TAKE" + number, x.hand(), kind);
        DUE.due("seen() behind TAKE" + number, x.seen(), due);
        x.give(kind, 0);
        DUE.due("SWAP" + number, act(x, SWAP, 7, 11, 0), 1);
        DUE.due("hand() behind SWAP" + number, x.hand(), kind);
        DUE.due("seen() behind SWAP" + number, x.seen(), due);
    }

    // ---- trays and rows

    private static void eightTrays() {
        for (int tray = 0; tray < 8; tray++) {
            RelayTrays x = new RelayTrays();
            x.make(tray, 5, 1);
            for (int other = 0; other < 8; other++) {
                DUE.due("kind(" + other + ") with a row on " + tray, x.kind(other), other == tray ? 5 : NONE);
                DUE.due("size(" + other + ") with a row on " + tray, x.size(other), other == tray ? 1 : NONE);
            }
        }
    }

    private static void placesOfARow() {
        for (int kind = 0; kind < 8; kind++) {
            for (int n = 0; n <= 12; n++) {
                RelayTrays x = new RelayTrays();
                DUE.due("make of " + n, x.make(1, kind, n), 1);
                hasPlaces(x, 1, kind, n);
                DUE.due("MAKE of " + n, act(x, MAKE, 2, n, kind), 1);
                hasPlaces(x, 2, kind, n);
            }
            RelayTrays x = new RelayTrays();
            DUE.due("make of -1", x.make(1, kind, -1), SIZE);
            DUE.due("make of 13", x.make(1, kind, 13), WIDE);
            DUE.due("MAKE of -1", act(x, MAKE, 1, -1, kind), SIZE);
            DUE.due("MAKE of 13", act(x, MAKE, 1, 13, kind), WIDE);
            DUE.due("kind behind rows that are not", x.kind(1), NONE);
        }
    }

    private static void hasPlaces(RelayTrays x, int tray, int kind, int n) {
        DUE.due("kind of a row", x.kind(tray), kind);
        DUE.due("size of a row", x.size(tray), n);
        for (int i = 0; i < n; i++) {
            x.give(5, 99);
            x.hand();
            DUE.due("look at place " + i + " of " + n, x.look(tray, i), kind);
            DUE.due("seen() at place " + i + " of " + n, x.seen(), 0);
        }
        DUE.due("look at place -1 of " + n, x.look(tray, -1), PLACE);
        DUE.due("look at place " + n + " of " + n, x.look(tray, n), PLACE);
        DUE.due("look at the lowest place of " + n, x.look(tray, MIN), PLACE);
        DUE.due("look at the highest place of " + n, x.look(tray, MAX), PLACE);
    }

    private static void oneRowOnAllTrays() {
        RelayTrays x = onAllTrays();
        for (int tray = 0; tray < 8; tray++) {
            x.put(tray, 0, 5, 10 + tray);
            onAllIs(x, 0, 10 + tray);
        }
        for (int tray = 0; tray < 8; tray++) {
            x.give(5, 20 + tray);
            act(x, LAY, tray, 1, 0);
            onAllIs(x, 1, 20 + tray);
        }
        x.give(5, 30);
        act(x, SWAP, 6, 1, 0);
        onAllIs(x, 1, 30);
    }

    private static void otherTraysKeepTheRow() {
        RelayTrays x = onAllTrays();
        x.put(0, 0, 5, 77);
        x.make(3, 5, 2);
        act(x, CLEAR, 4, 0, 0);
        act(x, MAKE, 5, 2, 5);
        for (int tray = 0; tray < 8; tray++) {
            boolean keeps = tray < 3 || tray > 5;
            DUE.due("same(0, " + tray + ")", x.same(0, tray), keeps ? 1 : 0);
            if (keeps) {
                DUE.due("look(" + tray + ", 0)", x.look(tray, 0), 5);
                DUE.due("seen() on tray " + tray, x.seen(), 77);
            }
        }
        x.put(3, 0, 5, 88);
        x.look(0, 0);
        DUE.due("seen() of the row that lay there before", x.seen(), 77);
        DUE.due("rows made", x.count(0), 3);
    }

    private static RelayTrays onAllTrays() {
        RelayTrays x = new RelayTrays();
        x.make(0, 5, 2);
        for (int tray = 1; tray < 8; tray++) {
            act(x, PASS, tray, tray - 1, 0);
        }
        return x;
    }

    private static void onAllIs(RelayTrays x, int i, long due) {
        for (int tray = 0; tray < 8; tray++) {
            DUE.due("look(" + tray + ", " + i + ")", x.look(tray, i), 5);
            DUE.due("seen() on tray " + tray, x.seen(), due);
        }
    }

    private static void handAtFirst() {
        RelayTrays x = new RelayTrays();
        DUE.due("hand()", x.hand(), NONE);
        for (int kind = 0; kind < 8; kind++) {
            x.give(kind, ONE[kind]);
            DUE.due("hand() of kind " + kind, x.hand(), kind);
            DUE.due("seen() of kind " + kind, x.seen(), ONE[kind]);
        }
    }

    private static void pointIsAnyInt() {
        RelayTrays x = new RelayTrays();
        DUE.due("point()", x.point(), 0);
        for (int to : new int[] {1, -1, 11, 12, 13, MAX, MIN, 0}) {
            act(x, SET, 0, to, 0);
            DUE.due("point() behind SET", x.point(), to);
        }
    }

    // ---- the order

    private static void fortyActs() {
        RelayTrays x = new RelayTrays();
        for (int n = 1; n <= 40; n++) {
            DUE.due("alter(" + (n - 1) + ", ..) of no such act", x.alter(n - 1, GO, 0, 0, 0, 0), -1);
            DUE.due("step " + n, x.step(GO, 0, 1, 0, 0), n);
            DUE.due("count(1)", x.count(1), n);
            DUE.due("alter(" + (n - 1) + ", ..)", x.alter(n - 1, GO, 0, n, 0, 0), GO);
        }
        DUE.due("step 41", x.step(GO, 0, 1, 0, 0), FULL);
        DUE.due("step 42", x.step(GO, 0, 1, 0, 0), FULL);
        DUE.due("count(1)", x.count(1), 40);
        DUE.due("run()", x.run(), 40);
        DUE.due("point()", x.point(), 820);
    }

    private static void placeIsPointAndA() {
        for (int what : new int[] {TAKE, READ, LAY, ADD, SWAP}) {
            for (int point = -3; point <= 3; point++) {
                for (int a = -3; a <= 3; a++) {
                    atThePlace(what, point, a, point + a);
                }
            }
        }
    }

    private static void placeGoesRound() {
        for (int what : new int[] {TAKE, READ, LAY, ADD, SWAP}) {
            atThePlace(what, MAX, MIN, -1);
            atThePlace(what, MAX, MIN + 1, 0);
            atThePlace(what, MAX, MIN + 2, 1);
            atThePlace(what, MAX, MIN + 3, 2);
            atThePlace(what, MIN, MIN, 0);
            atThePlace(what, MIN, MIN + 1, 1);
            atThePlace(what, MIN + 1, MIN, 1);
            atThePlace(what, MIN, MAX, -1);
            atThePlace(what, MAX, MAX, -2);
            atThePlace(what, MAX, 1, MIN);
            atThePlace(what, MIN, -1, MAX);
        }
    }

    /** An act at a place of a row of two longs, 100 and 101, with 7 in the hand. */
    private static void atThePlace(int what, int point, int a, int place) {
        RelayTrays x = new RelayTrays();
        x.make(0, 5, 2);
        x.put(0, 0, 5, 100);
        x.put(0, 1, 5, 101);
        x.give(5, 7);
        act(x, SET, 0, point, 0);
        boolean is = place == 0 || place == 1;
        String told = "act " + what + " with the point " + point + " and a " + a;
        DUE.due(told, act(x, what, 0, a, 5), is ? 1 : PLACE);
        boolean lays = is && (what == LAY || what == SWAP);
        for (int i = 0; i < 2; i++) {
            x.look(0, i);
            DUE.due("seen() at " + i + " behind " + told, x.seen(), lays && i == place ? 7 : 100 + i);
        }
        x.hand();
        long taken = what == ADD ? 107 + place : 100 + place;
        DUE.due("seen() of the hand behind " + told, x.seen(), !is || what == LAY ? 7 : taken);
        DUE.due("point() behind " + told, x.point(), point);
    }

    private static void whileMindsThePointAlone() {
        for (int n : new int[] {0, 1, 12}) {
            for (int point : new int[] {MIN, -1, 0, 1, n - 1, n, n + 1, MAX}) {
                RelayTrays x = new RelayTrays();
                x.make(0, 4, n);
                act(x, SET, 0, point, 0);
                x.clear();
                x.step(WHILE, 0, 2, 0, 0);
                x.step(SET, 0, 55, 0, 0);
                boolean is = point >= 0 && point < n;
                String told = "WHILE with the point " + point + " and " + n + " places";
                DUE.due(told, x.run(), is ? 1 : 2);
                DUE.due("point() behind " + told, x.point(), is ? point : 55);
            }
        }
    }

    /** One act by itself; one that meets a cause ends the run by it. */
    private static int act(RelayTrays x, int what, int tray, int a, int kind) {
        x.clear();
        x.step(what, tray, a, kind, -1);
        return x.run();
    }
}
