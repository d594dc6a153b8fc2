import java.lang.reflect.Array;
import java.util.ArrayList;
import java.util.Arrays;
import java.util.List;

/**
 * A second writing of the document, to compare the program with. It is written another way on purpose:
 * numbers are Java's boxed ones, rows are Java's arrays, which themselves know what goes into what, and
 * the causes of an act are a list that is gone through.
 */
final class Model {
    private static final int BAD = -1, FULL = -2, SPENT = -3, NONE = -4;

    private static final Class<?>[] TYPES = {
        boolean.class, byte.class, short.class, char.class, int.class, long.class, float.class, double.class};
    private static final List<Class<?>> BOXES = List.of(
        Boolean.class, Byte.class, Short.class, Character.class, Integer.class, Long.class, Float.class, Double.class);

    private enum Cause { NOTHING, BARE, PLACE, MISFIT_READ, MISFIT_LAY, MISFIT_OWN, SIZE, WIDE }

    private static final int[] NUMBERS = {1, 2, 3, 4, 4, 4, 5, 6};

    /** By the number of the act, as the document lists them. */
    private static final List<List<Cause>> CAUSES = List.of(
        List.of(Cause.NOTHING, Cause.PLACE),
        List.of(Cause.NOTHING, Cause.PLACE, Cause.MISFIT_READ),
        List.of(Cause.NOTHING, Cause.BARE, Cause.PLACE, Cause.MISFIT_LAY),
        List.of(Cause.NOTHING),
        List.of(Cause.WIDE, Cause.SIZE),
        List.of(), List.of(), List.of(), List.of(),
        List.of(Cause.NOTHING),
        List.of(Cause.BARE, Cause.MISFIT_OWN, Cause.NOTHING, Cause.PLACE, Cause.MISFIT_READ),
        List.of(Cause.NOTHING, Cause.PLACE, Cause.BARE, Cause.MISFIT_LAY),
        List.of(), List.of());

    private record Act(int what, int tray, int a, int kind, int e) { }

    private final Object[] trays = new Object[8];
    private final List<Act> order = new ArrayList<>();
    private final int[] counts = new int[17];
    private Object hand = null;
    private long seen = 0;
    private int point = 0;
    private int begun = 0;
    private int where = NONE;

    /** Any call by its name; the arguments that it does not have are left out. */
    long answer(String call, long... with) {
        int[] n = new int[6];
        for (int i = 0; i < with.length; i++) {
            n[i] = (int) with[i];
        }
        return switch (call) {
            case "make" -> wrong(8, n[0], n[1]) ? BAD : alone(new Act(4, n[0], n[2], n[1], 0));
            case "put" -> wrong(8, n[0], n[2]) ? BAD : put(n[0], n[1], number(n[2], with[3]));
            case "look" -> wrong(8, n[0]) ? BAD : look(n[0], n[1]);
            case "give" -> wrong(8, n[0]) ? BAD : give(number(n[0], with[1]));
            case "hand" -> hand == null ? NONE : see(hand);
            case "seen" -> seen;
            case "kind" -> wrong(8, n[0]) ? BAD : trays[n[0]] == null ? NONE : kindOfRow(trays[n[0]]);
            case "size" -> wrong(8, n[0]) ? BAD : trays[n[0]] == null ? NONE : Array.getLength(trays[n[0]]);
            case "same" -> wrong(8, n[0], n[1]) ? BAD : trays[n[0]] == trays[n[1]] ? 1 : 0;
            case "step" -> step(new Act(n[0], n[1], n[2], n[3], n[4]));
            case "alter" -> alter(n[0], new Act(n[1], n[2], n[3], n[4], n[5]));
            case "clear" -> clear();
            case "run" -> run();
            case "point" -> point;
            case "begun" -> begun;
            case "where" -> where;
            case "count" -> count(n[0]);
            default -> throw new IllegalArgumentException(call);
        };
    }

    private static boolean wrong(int below, int... numbers) {
        return Arrays.stream(numbers).anyMatch(number -> number < 0 || number >= below);
    }

    private static boolean wrong(Act act) {
        return wrong(14, act.what) || wrong(8, act.tray, act.kind);
    }

    private static Object number(int kind, long bits) {
        return switch (kind) {
            case 0 -> bits % 2 != 0;
            case 1 -> (byte) bits;
            case 2 -> (short) bits;
            case 3 -> (char) bits;
            case 4 -> (int) bits;
            case 5 -> bits;
            case 6 -> Float.intBitsToFloat((int) bits);
            default -> Double.longBitsToDouble(bits);
        };
    }

    private static int kindOfRow(Object row) {
        return Arrays.asList(TYPES).indexOf(row.getClass().getComponentType());
    }

    private int see(Object number) {
        int kind = BOXES.indexOf(number.getClass());
        seen = switch (kind) {
            case 0 -> (Boolean) number ? 1 : 0;
            case 3 -> (Character) number;
            case 6 -> Float.floatToIntBits((Float) number);
            case 7 -> Double.doubleToLongBits((Double) number);
            default -> ((Number) number).longValue();
        };
        return kind;
    }

    /** The number as another kind; null if its kind does not go into that one. */
    private static Object as(Object number, int kind) {
        Object room = Array.newInstance(TYPES[kind], 1);
        try {
            Array.set(room, 0, number);
        } catch (IllegalArgumentException misfit) {
            return null;
        }
        return Array.get(room, 0);
    }

    private static boolean hasPlace(Object row, int place) {
        return !wrong(Array.getLength(row), place);
    }

    private long met(int cause) {
        counts[10 + cause]++;
        return -10 - cause;
    }

    private long put(int tray, int i, Object number) {
        if (trays[tray] == null) {
            return met(1);
        }
        if (!hasPlace(trays[tray], i)) {
            return met(3);
        }
        Object there = as(number, kindOfRow(trays[tray]));
        if (there == null) {
            return met(4);
        }
        Array.set(trays[tray], i, there);
        return 1;
    }

    private long look(int tray, int i) {
        if (trays[tray] == null) {
            return met(1);
        }
        return hasPlace(trays[tray], i) ? see(Array.get(trays[tray], i)) : met(3);
    }

    private long give(Object number) {
        long before = hand == null ? NONE : BOXES.indexOf(hand.getClass());
        hand = number;
        return before;
    }

    private long step(Act act) {
        if (wrong(act)) {
            return BAD;
        }
        if (order.size() == 40) {
            return FULL;
        }
        order.add(act);
        return order.size();
    }

    private long alter(int i, Act act) {
        return wrong(order.size(), i) || wrong(act) ? BAD : order.set(i, act).what;
    }

    private long clear() {
        long before = order.size();
        order.clear();
        return before;
    }

    private long count(int what) {
        counts[1] = order.size();
        return wrong(17, what) || what > 4 && what < 11 ? BAD : counts[what];
    }

    private long alone(Act act) {
        Cause cause = causeOf(act);
        if (cause != null) {
            return met(NUMBERS[cause.ordinal()]);
        }
        perform(act, 0);
        return 1;
    }

    private long run() {
        counts[2]++;
        begun = 0;
        int at = 0;
        while (at >= 0 && at < order.size()) {
            if (begun == 40) {
                counts[4]++;
                return SPENT;
            }
            begun++;
            Act act = order.get(at);
            Cause cause = causeOf(act);
            if (cause == null) {
                at = perform(act, at);
                continue;
            }
            long answer = met(NUMBERS[cause.ordinal()]);
            where = at;
            at = act.e;
            if (wrong(order.size(), at)) {
                counts[3]++;
                return answer;
            }
        }
        return begun;
    }

    private Cause causeOf(Act act) {
        return CAUSES.get(act.what).stream().filter(cause -> isSo(cause, act)).findFirst().orElse(null);
    }

    private boolean isSo(Cause cause, Act act) {
        Object row = trays[act.tray];
        return switch (cause) {
            case NOTHING -> row == null;
            case BARE -> hand == null;
            case PLACE -> !hasPlace(row, point + act.a);
            case MISFIT_READ -> as(Array.get(row, point + act.a), act.what == 10 ? 5 : act.kind) == null;
            case MISFIT_LAY -> as(hand, kindOfRow(row)) == null;
            case MISFIT_OWN -> as(hand, 5) == null;
            case SIZE -> act.a < 0;
            case WIDE -> act.a > 12 || counts[0] == 400;
        };
    }

    /** Does an act that meets no cause; answers where it goes on. */
    private int perform(Act act, int at) {
        Object row = trays[act.tray];
        int place = point + act.a;
        switch (act.what) {
            case 0 -> hand = Array.get(row, place);
            case 1 -> hand = as(Array.get(row, place), act.kind);
            case 2 -> Array.set(row, place, hand);
            case 3 -> hand = Array.getLength(row);
            case 4 -> {
                trays[act.tray] = Array.newInstance(TYPES[act.kind], act.a);
                counts[0]++;
            }
            case 5 -> trays[act.tray] = trays[act.a & 7];
            case 6 -> trays[act.tray] = null;
            case 7 -> point = place;
            case 8 -> point = act.a;
            case 10 -> hand = (Long) as(hand, 5) + Array.getLong(row, place);
            case 11 -> {
                Object there = Array.get(row, place);
                Array.set(row, place, hand);
                hand = there;
            }
            case 13 -> hand = null;
            default -> { }
        }
        boolean jumps = act.what == 12 || act.what == 9 && hasPlace(row, point);
        return jumps ? act.a : at + 1;
    }
}
