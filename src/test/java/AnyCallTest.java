import java.lang.reflect.InvocationTargetException;
import java.lang.reflect.Method;
import java.lang.reflect.Modifier;
import java.util.Arrays;
import java.util.function.Consumer;

/** "No call may ever throw or fail to end, for any arguments in any state": behind the 512th call too. */
public final class AnyCallTest {
    private static final Due DUE = new Due();
    private static final int MAKE = 4, PASS = 5, JUMP = 12;
    private static final int PROMISED = 512;
    private static final long PATIENCE = 120_000L;

    private static final Object[] INTS = {Integer.MIN_VALUE, -1, 0, 7, 13, 40, Integer.MAX_VALUE};
    private static final Object[] LONGS = {
        Long.MIN_VALUE, -1L, 0L, 1L, Long.MAX_VALUE, 0x7f800000L, 0x7f800001L, 0x7ff0000000000001L,
        0xfff8000000000000L};

    public static void main(String[] args) {
        endsIfCallsDoNot();
        DUE.sentence("any call on a new object", () -> everyCall(x -> { }));
        DUE.sentence("any call on an object in use", () -> everyCall(AnyCallTest::isInUse));
        DUE.sentence("any call on an object that is used up", () -> everyCall(AnyCallTest::isUsedUp));
        DUE.sentence("at most 512 calls .. what later calls answer is free", AnyCallTest::behindThePromisedCalls);
        DUE.end("AnyCallTest");
    }

    /** A call that does not end must fail the test, not hold it up. */
    private static void endsIfCallsDoNot() {
        Thread watch = new Thread(() -> {
            try {
                Thread.sleep(PATIENCE);
                System.out.println("AnyCallTest: a call did not end");
                Runtime.getRuntime().halt(1);
            } catch (InterruptedException e) {
                Thread.currentThread().interrupt();
            }
        });
        watch.setDaemon(true);
        watch.start();
    }

    // ---- the objects

    private static void isInUse(RelayTrays x) {
        for (int tray = 0; tray < 7; tray++) {
            x.make(tray, tray, tray);
        }
        x.give(1, -1);
        for (int act = 0; act < 14; act++) {
            x.step(act, act % 8, 1, 7, act + 1);
        }
        x.run();
    }

    /** The order is full, no more rows can be made, and runs are spent. */
    private static void isUsedUp(RelayTrays x) {
        for (int i = 0; i < 40; i++) {
            x.step(i < 39 ? MAKE : JUMP, i % 8, i < 39 ? i % 13 : 0, i % 8, i + 1);
        }
        while (x.count(0) < 400) {
            x.run();
        }
        x.alter(0, PASS, 7, -1, 0, 0);
    }

    // ---- the calls

    private static void everyCall(Consumer<RelayTrays> used) {
        for (Method method : RelayTrays.class.getDeclaredMethods()) {
            if (Modifier.isPublic(method.getModifiers())) {
                RelayTrays x = new RelayTrays();
                used.accept(x);
                everyCall(x, method, new Object[method.getParameterCount()], 0);
            }
        }
    }

    /** Each parameter from this one on takes each number in turn. */
    private static void everyCall(RelayTrays x, Method method, Object[] with, int parameter) {
        if (parameter == with.length) {
            ends(x, method, with);
            return;
        }
        for (Object number : method.getParameterTypes()[parameter] == long.class ? LONGS : INTS) {
            with[parameter] = number;
            everyCall(x, method, with, parameter + 1);
        }
    }

    /** And a run behind it, which goes through what the call has changed. */
    private static void ends(RelayTrays x, Method method, Object[] with) {
        Throwable thrown = null;
        try {
            method.invoke(x, with);
            x.run();
        } catch (InvocationTargetException e) {
            thrown = e.getCause();
        } catch (IllegalAccessException | RuntimeException e) {
            thrown = e;
        }
        DUE.holds(method.getName() + Arrays.toString(with) + " threw " + thrown, thrown == null);
    }

    /** The last call that is promised answers as the first ones did, and later ones end. */
    private static void behindThePromisedCalls() {
        RelayTrays x = new RelayTrays();
        x.make(0, 4, 1);
        for (int calls = 2; calls <= PROMISED; calls++) {
            DUE.due("put() as call " + calls, x.put(0, 1, 4, 1), -13);
        }
        RelayTrays y = new RelayTrays();
        for (int calls = 1; calls < PROMISED; calls++) {
            y.run();
        }
        DUE.due("count(2) as call 512", y.count(2), PROMISED - 1);
        for (int calls = 0; calls < 100 * PROMISED; calls++) {
            y.step(MAKE, 0, 12, 7, 0);
            y.run();
            y.make(1, 7, 12);
        }
        DUE.holds("calls behind the 512th have ended", true);
    }
}
