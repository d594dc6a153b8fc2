import java.util.Arrays;
import java.util.SplittableRandom;

/** Long runs of drawn calls, each answer compared with the model's; the draw is the same every time. */
public final class ModelTest {
    private static final Due DUE = new Due();
    private static final int OBJECTS = 6000;
    private static final int CALLS = 512;
    private static final int SHOWN = 20;

    private static final int[] INTS = {
        Integer.MIN_VALUE, Integer.MIN_VALUE + 1, -9, -8, 8, 11, 12, 13, 14, 39, 40, 41, 99, Integer.MAX_VALUE - 1,
        Integer.MAX_VALUE};
    private static final long[] LONGS = {
        0, 1, -1, 127, -128, 255, 65535, 16777217, -16777219, Integer.MAX_VALUE, Integer.MIN_VALUE,
        (1L << 53) + 1, (1L << 53) + 3, Long.MAX_VALUE, Long.MIN_VALUE, 0x7f800000L, 0xff800000L, 0x7f800001L,
        0xffc00001L, 1L << 31, 0x7ff0000000000000L, 0xfff0000000000001L, 0x3ff8000000000000L, 0x3fc00000L};

    private static final String[] CHANGES = {"make", "put", "give", "step", "step", "step", "alter", "run"};
    private static final String[] QUESTIONS = {
        "look", "hand", "seen", "seen", "kind", "size", "same", "point", "begun", "where", "count"};

    private final SplittableRandom random;
    private final RelayTrays program = new RelayTrays();
    private final Model model = new Model();

    private ModelTest(long seed) {
        random = new SplittableRandom(seed);
    }

    public static void main(String[] args) {
        for (int seed = 0; seed < OBJECTS && DUE.wrong() < SHOWN; seed++) {
            new ModelTest(seed).compare(seed);
        }
        DUE.end("ModelTest");
    }

    private void compare(int seed) {
        // some objects are mostly run, so that their rows and steps are used up
        boolean runsOften = seed % 4 == 0;
        for (int i = 0; i < CALLS; i++) {
            String call = name(runsOften && i > 60);
            long[] with = arguments(call);
            String told = "object " + seed + ", call " + i + ": " + call + Arrays.toString(with);
            DUE.due(told, ask(call, with), model.answer(call, with));
        }
    }

    private String name(boolean runsOften) {
        if (random.nextInt(120) == 0) {
            return "clear";
        }
        if (runsOften && random.nextInt(2) == 0) {
            return "run";
        }
        String[] names = random.nextInt(2) == 0 ? CHANGES : QUESTIONS;
        return names[random.nextInt(names.length)];
    }

    private long[] arguments(String call) {
        return switch (call) {
            case "make" -> new long[] {eight(), eight(), small()};
            case "put" -> new long[] {eight(), small(), eight(), bits()};
            case "look", "same" -> new long[] {eight(), call.equals("look") ? small() : eight()};
            case "give" -> new long[] {eight(), bits()};
            case "kind", "size" -> new long[] {eight()};
            case "step" -> new long[] {what(), eight(), small(), eight(), onward()};
            case "alter" -> new long[] {onward(), what(), eight(), small(), eight(), onward()};
            case "count" -> new long[] {random.nextInt(-1, 19)};
            default -> new long[0];
        };
    }

    private int eight() {
        return random.nextInt(60) == 0 ? any() : random.nextInt(3) == 0 ? random.nextInt(8) : random.nextInt(4);
    }

    private int what() {
        return random.nextInt(60) == 0 ? any() : random.nextInt(14);
    }

    private int small() {
        return random.nextInt(20) == 0 ? any() : random.nextInt(-2, 9);
    }

    private int onward() {
        return random.nextInt(20) == 0 ? any() : random.nextInt(-1, 20);
    }

    private int any() {
        return random.nextInt(2) == 0 ? INTS[random.nextInt(INTS.length)] : random.nextInt(-20, 60);
    }

    private long bits() {
        return random.nextInt(2) == 0 ? LONGS[random.nextInt(LONGS.length)] : random.nextLong() >> random.nextInt(64);
    }

    private long ask(String call, long[] with) {
        int[] n = Arrays.copyOf(Arrays.stream(with).mapToInt(one -> (int) one).toArray(), 6);
        return switch (call) {
            case "make" -> program.make(n[0], n[1], n[2]);
            case "put" -> program.put(n[0], n[1], n[2], with[3]);
            case "look" -> program.look(n[0], n[1]);
            case "give" -> program.give(n[0], with[1]);
            case "hand" -> program.hand();
            case "seen" -> program.seen();
            case "kind" -> program.kind(n[0]);
            case "size" -> program.size(n[0]);
            case "same" -> program.same(n[0], n[1]);
            case "step" -> program.step(n[0], n[1], n[2], n[3], n[4]);
            case "alter" -> program.alter(n[0], n[1], n[2], n[3], n[4], n[5]);
            case "clear" -> program.clear();
            case "run" -> program.run();
            case "point" -> program.point();
            case "begun" -> program.begun();
            case "where" -> program.where();
            case "count" -> program.count(n[0]);
            default -> throw new IllegalArgumentException(call);
        };
    }
}
