/**
 * A relay of trays: rows of numbers of any kind lie on trays, one hand carries one number from
 * place to place; an order of acts is gone through, and an act that cannot be done goes on
 * elsewhere, as it is told to.
 */
public final class RelayTrays {
    public static final int BAD = -1, FULL = -2, SPENT = -3, NONE = -4;

    private static final int TRAYS = 8, WIDEST = 12, MOST_ROWS = 400, MOST_ACTS = 40, MOST_STEPS = 40;

    private static final int NO_CAUSE = 0, NOTHING = 1, BARE = 2, PLACE = 3, MISFIT = 4, SIZE = 5, WIDE = 6;
    private static final int DONE = 1, BEFORE_CAUSES = 10;

    private final Row[] trays = new Row[TRAYS];
    private final Act[] order = new Act[MOST_ACTS];
    private int acts = 0;

    private int handKind = NONE;
    private long handBits = 0L;
    private long seenBits = 0L;
    private int point = 0;

    /** The number of the act that the run goes on at; an act that jumps sets it. */
    private int goesOnAt = 0;
    private int stepsBegun = 0;
    private int causeAct = NONE;

    private int rowsMade = 0;
    private int runs = 0;
    private int runsOverByCause = 0;
    private int runsSpent = 0;
    private final int[] timesMet = new int[WIDE + 1];

    public RelayTrays() {
    }

    // ---- trays and rows

    public int make(int tray, int kind, int n) {
        if (!isTray(tray) || !Numbers.isKind(kind)) {
            return BAD;
        }
        return answerBehind(layNewRow(tray, kind, n));
    }

    public int put(int tray, int i, int kind, long bits) {
        if (!isTray(tray) || !Numbers.isKind(kind)) {
            return BAD;
        }
        return answerBehind(layNumber(trays[tray], i, kind, Numbers.told(kind, bits)));
    }

    public int look(int tray, int i) {
        if (!isTray(tray)) {
            return BAD;
        }
        Row row = trays[tray];
        if (row == null) {
            return answerBehind(NOTHING);
        }
        if (!row.hasPlace(i)) {
            return answerBehind(PLACE);
        }
        seenBits = row.places[i];
        return row.kind;
    }

    public int kind(int tray) {
        if (!isTray(tray)) {
            return BAD;
        }
        Row row = trays[tray];
        return row == null ? NONE : row.kind;
    }

    public int size(int tray) {
        if (!isTray(tray)) {
            return BAD;
        }
        Row row = trays[tray];
        return row == null ? NONE : row.places.length;
    }

    public int same(int tray, int other) {
        if (!isTray(tray) || !isTray(other)) {
            return BAD;
        }
        return trays[tray] == trays[other] ? 1 : 0;
    }

    // ---- the hand and the point

    public int give(int kind, long bits) {
        if (!Numbers.isKind(kind)) {
            return BAD;
        }
        int kindBefore = handKind;
        carry(kind, Numbers.told(kind, bits));
        return kindBefore;
    }

    public int hand() {
        if (handKind != NONE) {
            seenBits = handBits;
        }
        return handKind;
    }

    public long seen() {
        return seenBits;
    }

    public int point() {
        return point;
    }

    // ---- the order

    public int step(int what, int tray, int a, int kind, int e) {
        if (!isAct(what, tray, kind)) {
            return BAD;
        }
        if (acts >= MOST_ACTS) {
            return FULL;
        }
        order[acts] = new Act(what, tray, a, kind, e);
        acts++;
        return acts;
    }

    public int alter(int i, int what, int tray, int a, int kind, int e) {
        Act before = actNumbered(i);
        if (before == null || !isAct(what, tray, kind)) {
            return BAD;
        }
        order[i] = new Act(what, tray, a, kind, e);
        return before.what;
    }

    public int clear() {
        int actsBefore = acts;
        acts = 0;
        return actsBefore;
    }

    // ---- runs

    public int run() {
        int steps = 0;
        int cause = NO_CAUSE;
        int number = 0;
        Act act = actNumbered(number);
        while (act != null && steps < MOST_STEPS) {
            steps++;
            goesOnAt = number + 1;
            cause = perform(act);
            if (cause != NO_CAUSE) {
                countCause(cause);
                causeAct = number;
                goesOnAt = act.e;
            }
            number = goesOnAt;
            act = actNumbered(number);
        }
        stepsBegun = steps;
        return answerOfRun(act != null, cause);
    }

    /** The cause is that of the last step: a run that went on behind one is not over by it. */
    private int answerOfRun(boolean wouldGoOn, int cause) {
        runs++;
        if (wouldGoOn) {
            runsSpent++;
            return SPENT;
        }
        if (cause != NO_CAUSE) {
            runsOverByCause++;
            return -BEFORE_CAUSES - cause;
        }
        return stepsBegun;
    }

    public int begun() {
        return stepsBegun;
    }

    public int where() {
        return causeAct;
    }

    public int count(int what) {
        switch (what) {
            case 0:
                return rowsMade;
            case 1:
                return acts;
            case 2:
                return runs;
            case 3:
                return runsOverByCause;
            case 4:
                return runsSpent;
            default:
                return countOfCause(what);
        }
    }

    private int countOfCause(int what) {
        if (what < BEFORE_CAUSES + NOTHING || what > BEFORE_CAUSES + WIDE) {
            return BAD;
        }
        return timesMet[what - BEFORE_CAUSES];
    }

    // ---- what a number names

    private static boolean isTray(int tray) {
        return tray >= 0 && tray < TRAYS;
    }

    private static boolean isAct(int what, int tray, int kind) {
        return what >= 0 && what <= Act.DROP && isTray(tray) && Numbers.isKind(kind);
    }

    private Act actNumbered(int number) {
        return number >= 0 && number < acts ? order[number] : null;
    }

    // ---- causes

    private int answerBehind(int cause) {
        if (cause == NO_CAUSE) {
            return DONE;
        }
        countCause(cause);
        return -BEFORE_CAUSES - cause;
    }

    private void countCause(int cause) {
        if (cause >= NOTHING && cause <= WIDE) {
            timesMet[cause]++;
        }
    }

    // ---- acts: each answers the cause that it met, and has then changed nothing

    private int perform(Act act) {
        switch (act.what) {
            case Act.TAKE:
                return takeNumber(trays[act.tray], point + act.a);
            case Act.READ:
                return readNumber(trays[act.tray], point + act.a, act.kind);
            case Act.LAY:
                return layNumber(trays[act.tray], point + act.a, handKind, handBits);
            case Act.COUNT:
                return countPlaces(trays[act.tray]);
            case Act.MAKE:
                return layNewRow(act.tray, act.kind, act.a);
            case Act.WHILE:
                return goOnWhilePlace(trays[act.tray], act.a);
            case Act.ADD:
                return addNumber(trays[act.tray], point + act.a);
            case Act.SWAP:
                return swapNumber(trays[act.tray], point + act.a);
            default:
                performWithoutCause(act);
                return NO_CAUSE;
        }
    }

    private void performWithoutCause(Act act) {
        switch (act.what) {
            case Act.PASS:
                trays[act.tray] = trays[Math.floorMod(act.a, TRAYS)];
                break;
            case Act.CLEAR:
                trays[act.tray] = null;
                break;
            case Act.GO:
                point = point + act.a;
                break;
            case Act.SET:
                point = act.a;
                break;
            case Act.JUMP:
                goesOnAt = act.a;
                break;
            case Act.DROP:
                handKind = NONE;
                break;
            default:
                break;
        }
    }

    private int takeNumber(Row row, int place) {
        if (row == null) {
            return NOTHING;
        }
        if (!row.hasPlace(place)) {
            return PLACE;
        }
        carry(row.kind, row.places[place]);
        return NO_CAUSE;
    }

    private int readNumber(Row row, int place, int kind) {
        if (row == null) {
            return NOTHING;
        }
        if (!row.hasPlace(place)) {
            return PLACE;
        }
        if (!Numbers.goesInto(row.kind, kind)) {
            return MISFIT;
        }
        carry(kind, Numbers.turned(row.kind, kind, row.places[place]));
        return NO_CAUSE;
    }

    /** What comes from a bare hand is of kind NONE. */
    private int layNumber(Row row, int place, int kind, long bits) {
        if (row == null) {
            return NOTHING;
        }
        if (kind == NONE) {
            return BARE;
        }
        if (!row.hasPlace(place)) {
            return PLACE;
        }
        if (!Numbers.goesInto(kind, row.kind)) {
            return MISFIT;
        }
        row.places[place] = Numbers.turned(kind, row.kind, bits);
        return NO_CAUSE;
    }

    private int countPlaces(Row row) {
        if (row == null) {
            return NOTHING;
        }
        carry(Numbers.INTS, row.places.length);
        return NO_CAUSE;
    }

    private int layNewRow(int tray, int kind, int places) {
        if (places > WIDEST || rowsMade >= MOST_ROWS) {
            return WIDE;
        }
        if (places < 0) {
            return SIZE;
        }
        trays[tray] = new Row(kind, places);
        rowsMade++;
        return NO_CAUSE;
    }

    private int goOnWhilePlace(Row row, int number) {
        if (row == null) {
            return NOTHING;
        }
        if (row.hasPlace(point)) {
            goesOnAt = number;
        }
        return NO_CAUSE;
    }

    private int addNumber(Row row, int place) {
        if (handKind == NONE) {
            return BARE;
        }
        if (!Numbers.goesInto(handKind, Numbers.LONGS)) {
            return MISFIT;
        }
        if (row == null) {
            return NOTHING;
        }
        if (!row.hasPlace(place)) {
            return PLACE;
        }
        if (!Numbers.goesInto(row.kind, Numbers.LONGS)) {
            return MISFIT;
        }
        long own = Numbers.turned(handKind, Numbers.LONGS, handBits);
        carry(Numbers.LONGS, own + Numbers.turned(row.kind, Numbers.LONGS, row.places[place]));
        return NO_CAUSE;
    }

    private int swapNumber(Row row, int place) {
        if (row == null) {
            return NOTHING;
        }
        if (!row.hasPlace(place)) {
            return PLACE;
        }
        if (handKind == NONE) {
            return BARE;
        }
        if (!Numbers.goesInto(handKind, row.kind)) {
            return MISFIT;
        }
        long bitsThere = row.places[place];
        row.places[place] = Numbers.turned(handKind, row.kind, handBits);
        carry(row.kind, bitsThere);
        return NO_CAUSE;
    }

    private void carry(int kind, long bits) {
        handKind = kind;
        handBits = bits;
    }

    /** A row of numbers of one kind, each held as the long that it is told by. */
    private static final class Row {
        final int kind;
        final long[] places;

        Row(int kind, int size) {
            this.kind = kind;
            this.places = new long[size < 0 ? 0 : size];
        }

        boolean hasPlace(int place) {
            return place >= 0 && place < places.length;
        }
    }

    /** An act of the order; it is made only of a tray and a kind that there are. */
    private static final class Act {
        static final int TAKE = 0, READ = 1, LAY = 2, COUNT = 3, MAKE = 4, PASS = 5, CLEAR = 6;
        static final int GO = 7, SET = 8, WHILE = 9, ADD = 10, SWAP = 11, JUMP = 12, DROP = 13;

        final int what;
        final int tray;
        final int a;
        final int kind;
        final int e;

        Act(int what, int tray, int a, int kind, int e) {
            this.what = what;
            this.tray = tray;
            this.a = a;
            this.kind = kind;
            this.e = e;
        }
    }

    /**
     * The kinds of numbers, and how one goes into another. Floats and doubles are worked on as
     * their bits alone, since no float that is made here could be turned back into bits.
     */
    private static final class Numbers {
        static final int TRUTHS = 0, BYTES = 1, SHORTS = 2, CHARS = 3, INTS = 4, LONGS = 5, FLOATS = 6, DOUBLES = 7;

        /** For each kind a bit for each kind that it goes into, the lowest for kind 0. */
        static final int[] GOES_INTO = {
            0b00000001, 0b11110110, 0b11110100, 0b11111000, 0b11110000, 0b11100000, 0b11000000, 0b10000000};

        static final int FLOAT_FRACTION = 23, FLOAT_BIAS = 127, FLOAT_SIGN = 31;
        static final int DOUBLE_FRACTION = 52, DOUBLE_BIAS = 1023, DOUBLE_SIGN = 63;
        static final long FLOAT_MAGNITUDE = 0x7fffffffL, DOUBLE_MAGNITUDE = 0x7fffffffffffffffL;
        static final long FLOAT_INFINITE = 0x7f800000L, FLOAT_NO_NUMBER = 2143289344L;
        static final long DOUBLE_INFINITE = 0x7ff0000000000000L, DOUBLE_NO_NUMBER = 9221120237041090560L;

        /** What the exponent of a double is raised by above that of the same float. */
        static final long BIAS_APART = (long) (DOUBLE_BIAS - FLOAT_BIAS) << DOUBLE_FRACTION;
        /** What the exponent of a double falls by from 1 to the smallest float. */
        static final long SMALLEST_FLOAT_POWER = (long) (FLOAT_BIAS - 1 + FLOAT_FRACTION) << DOUBLE_FRACTION;

        static boolean isKind(int kind) {
            return kind >= TRUTHS && kind <= DOUBLES;
        }

        static boolean goesInto(int from, int to) {
            return isKind(from) && isKind(to) && (GOES_INTO[from] >> to & 1) == 1;
        }

        /** The long that a number of a kind with these bits is told by. */
        static long told(int kind, long bits) {
            switch (kind) {
                case TRUTHS:
                    return bits & 1L;
                case BYTES:
                    return (byte) bits;
                case SHORTS:
                    return (short) bits;
                case CHARS:
                    return (char) bits;
                case INTS:
                    return (int) bits;
                case FLOATS:
                    return (bits & FLOAT_MAGNITUDE) > FLOAT_INFINITE ? FLOAT_NO_NUMBER : (int) bits;
                case DOUBLES:
                    return (bits & DOUBLE_MAGNITUDE) > DOUBLE_INFINITE ? DOUBLE_NO_NUMBER : bits;
                default:
                    return bits;
            }
        }

        /** A told number as another kind that its kind goes into. */
        static long turned(int from, int to, long number) {
            if (from == to || to < FLOATS) {
                return number;
            }
            if (to == FLOATS) {
                return nearest(number, FLOAT_FRACTION, FLOAT_BIAS, FLOAT_SIGN);
            }
            if (from == FLOATS) {
                return doubleOfFloat(number);
            }
            return nearest(number, DOUBLE_FRACTION, DOUBLE_BIAS, DOUBLE_SIGN);
        }

        /** The told float or double nearest to a whole number. */
        static long nearest(long whole, int fraction, int bias, int sign) {
            if (whole == 0L) {
                return 0L;
            }
            // the lowest long has no opposite; it stays, and is right as a number without sign
            long magnitude = whole < 0L ? -whole : whole;
            int top = 63 - Long.numberOfLeadingZeros(magnitude);
            long digits = top <= fraction ? magnitude << (fraction - top) : shortened(magnitude, top - fraction);
            // added, not joined: digits that were rounded up to one more raise the exponent
            long bits = ((long) (top + bias) << fraction) + (digits - (1L << fraction));
            return whole < 0L ? bits | -1L << sign : bits;
        }

        /** Without its lowest digits (at least one is lost), rounded; of two as near the even one. */
        static long shortened(long magnitude, int lost) {
            long kept = magnitude >>> lost;
            long rest = magnitude & ((1L << lost) - 1L);
            long half = 1L << (lost - 1);
            boolean up = rest > half || rest == half && (kept & 1L) == 1L;
            return up ? kept + 1L : kept;
        }

        static long doubleOfFloat(long told) {
            long magnitude = told & FLOAT_MAGNITUDE;
            long bits;
            if (magnitude == 0L) {
                bits = 0L;
            } else if (magnitude < 1L << FLOAT_FRACTION) {
                // such small floats have no leading 1: they are whole numbers of the smallest one
                bits = nearest(magnitude, DOUBLE_FRACTION, DOUBLE_BIAS, DOUBLE_SIGN) - SMALLEST_FLOAT_POWER;
            } else if (magnitude < FLOAT_INFINITE) {
                bits = (magnitude << (DOUBLE_FRACTION - FLOAT_FRACTION)) + BIAS_APART;
            } else if (magnitude == FLOAT_INFINITE) {
                bits = DOUBLE_INFINITE;
            } else {
                return DOUBLE_NO_NUMBER;
            }
            return told < 0L ? bits | -1L << DOUBLE_SIGN : bits;
        }
    }
}
