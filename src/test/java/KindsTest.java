import java.util.SplittableRandom;

/** Terms: the kinds, which goes into which, and their bits; each is asked of Java's own numbers. */
public final class KindsTest {
    private static final Due DUE = new Due();
    private static final int MISFIT = -14;
    private static final int CALLS = 512;

    /** Rows are kinds that go, columns kinds that they go into: the document's list, written out. */
    private static final String[] GOES = {
        "1.......",
        ".11.1111",
        "..1.1111",
        "...11111",
        "....1111",
        ".....111",
        "......11",
        ".......1"};

    private static final long[] EDGES = {
        0, 1, 2, 3, -1, -2, 127, 128, -128, -129, 255, 256, 32767, 32768, -32768, -32769, 65535, 65536,
        16777215, 16777216, 16777217, 16777218, 16777219, 33554433, 33554434, 33554435, 33554437, 33554438,
        33554439, -16777217, -16777219, Integer.MAX_VALUE, Integer.MIN_VALUE, Integer.MAX_VALUE - 63L,
        Integer.MAX_VALUE - 64L, 1L << 31, 1L << 32, (1L << 53) - 1, 1L << 53, (1L << 53) + 1, (1L << 53) + 2,
        (1L << 53) + 3, (1L << 54) + 2, (1L << 54) + 6, -(1L << 53) - 1, -(1L << 53) - 3, Long.MAX_VALUE,
        Long.MAX_VALUE - 511, Long.MAX_VALUE - 512, Long.MAX_VALUE - 1023, Long.MIN_VALUE, Long.MIN_VALUE + 1,
        Long.MIN_VALUE + 512, Long.MIN_VALUE + 513, (1L << 60) + (1L << 36), (1L << 60) + (1L << 36) + 1,
        (1L << 60) + 3 * (1L << 36), (1L << 60) + (1L << 36) - 1, 0x7fffff4000000001L,
        // bits of floats
        0x80000000L, 0x00000001L, 0x80000001L, 0x00400000L, 0x007fffffL, 0x00800000L, 0x3f800000L, 0x7f7fffffL,
        0x7f800000L, 0xff800000L, 0x7f800001L, 0xff800001L, 0x7fc00000L, 0xffc00000L, 0x7fffffffL, 0xffffffffL,
        0x1_7f800000L, 0xabcdef01_7fc00001L,
        // bits of doubles
        0x8000000000000000L, 0x000fffffffffffffL, 0x3ff0000000000000L, 0x7fefffffffffffffL, 0x7ff0000000000000L,
        0xfff0000000000000L, 0x7ff0000000000001L, 0xfff0000000000001L, 0x7ff8000000000000L, 0xfff8000000000000L,
        0x7fffffffffffffffL};

    public static void main(String[] args) {
        whichGoesIntoWhich();
        noNumber();
        for (long bits : EDGES) {
            everyKindIntoEveryKind(bits);
        }
        SplittableRandom random = new SplittableRandom(20261116);
        for (int i = 0; i < 20000; i++) {
            everyKindIntoEveryKind(random.nextLong() >> random.nextInt(64));
        }
        DUE.end("KindsTest");
    }

    private static void whichGoesIntoWhich() {
        RelayTrays x = trayOfEachKind();
        for (int from = 0; from < 8; from++) {
            for (int to = 0; to < 8; to++) {
                int due = GOES[from].charAt(to) == '1' ? 1 : MISFIT;
                DUE.due("put(" + to + ", 0, " + from + ", 1)", x.put(to, 0, from, 1), due);
            }
        }
    }

    private static void noNumber() {
        RelayTrays x = new RelayTrays();
        x.give(6, 0xffc12345L);
        DUE.due("hand()", x.hand(), 6);
        DUE.due("seen() of a float that is no number", x.seen(), 2143289344L);
        x.give(7, 0xfff0000000000001L);
        DUE.due("hand()", x.hand(), 7);
        DUE.due("seen() of a double that is no number", x.seen(), 9221120237041090560L);
        x.make(0, 7, 1);
        x.put(0, 0, 6, 0xff800001L);
        x.look(0, 0);
        DUE.due("seen() of a float that is no number in a double", x.seen(), 9221120237041090560L);
    }

    private static void everyKindIntoEveryKind(long bits) {
        RelayTrays x = trayOfEachKind();
        int calls = 8;
        for (int from = 0; from < 8; from++) {
            Object number = number(from, bits);
            x.give(from, bits);
            DUE.due("hand() of kind " + from, x.hand(), from);
            DUE.due("seen() of kind " + from + ", bits " + bits, x.seen(), told(number));
            calls += 3;
            for (int to = 0; to < 8; to++) {
                if (GOES[from].charAt(to) != '1') {
                    continue;
                }
                x.put(to, 0, from, bits);
                DUE.due("look(" + to + ", 0)", x.look(to, 0), to);
                String call = "seen() of kind " + from + " put into " + to + ", bits " + bits;
                DUE.due(call, x.seen(), told(as(number, to)));
                calls += 3;
            }
        }
        DUE.holds("the object is used for no more calls than it may be", calls <= CALLS);
    }

    private static RelayTrays trayOfEachKind() {
        RelayTrays x = new RelayTrays();
        for (int kind = 0; kind < 8; kind++) {
            x.make(kind, kind, 1);
        }
        return x;
    }

    private static Object number(int kind, long bits) {
        return switch (kind) {
            case 0 -> (bits & 1) == 1;
            case 1 -> (byte) bits;
            case 2 -> (short) bits;
            case 3 -> (char) bits;
            case 4 -> (int) bits;
            case 5 -> bits;
            case 6 -> Float.intBitsToFloat((int) bits);
            default -> Double.longBitsToDouble(bits);
        };
    }

    /** Java's own widening, through an array of the kind. */
    private static Object as(Object number, int kind) {
        Object row = java.lang.reflect.Array.newInstance(TYPES[kind], 1);
        java.lang.reflect.Array.set(row, 0, number);
        return java.lang.reflect.Array.get(row, 0);
    }

    private static final Class<?>[] TYPES = {
        boolean.class, byte.class, short.class, char.class, int.class, long.class, float.class, double.class};

    private static long told(Object number) {
        if (number instanceof Boolean truth) {
            return truth ? 1 : 0;
        }
        if (number instanceof Character letter) {
            return letter;
        }
        if (number instanceof Float small) {
            return Float.floatToIntBits(small);
        }
        if (number instanceof Double large) {
            return Double.doubleToLongBits(large);
        }
        return ((Number) number).longValue();
    }
}
