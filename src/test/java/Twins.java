import java.util.Map;
import java.util.function.Consumer;
import java.util.function.ToLongFunction;

/** Two objects that were used alike: what the one is asked more must leave it as the other is. */
final class Twins {
    private final Due due;
    private final Consumer<RelayTrays> used;

    Twins(Due due, Consumer<RelayTrays> used) {
        this.due = due;
        this.used = used;
    }

    private RelayTrays one() {
        RelayTrays x = new RelayTrays();
        used.accept(x);
        return x;
    }

    /** A call that changes nothing at all, THE ORDER too, as a run behind it shows. */
    void changesNothing(String call, ToLongFunction<RelayTrays> question, long answer) {
        RelayTrays asked = one();
        RelayTrays other = one();
        due.due(call, question.applyAsLong(asked), answer);
        due.alike(call, State.of(asked), State.of(other));
        due.due(call + ", then run()", asked.run(), other.run());
        due.alike(call + ", then run()", State.of(asked), State.of(other));
    }

    /** A call that is done: it changes what is told here, and nothing else; null is gone. */
    void callChanges(String call, ToLongFunction<RelayTrays> question, long answer, Map<String, Long> changes) {
        RelayTrays asked = one();
        Map<String, Long> want = State.of(one());
        due.due(call, question.applyAsLong(asked), answer);
        want.putAll(changes);
        want.values().removeIf(value -> value == null);
        due.alike(call, State.of(asked), want);
    }

    /** make(), put() or look() that meets a cause: it is counted, and nothing else is changed. */
    void callMeets(String call, ToLongFunction<RelayTrays> question, int cause) {
        RelayTrays asked = one();
        Map<String, Long> want = State.of(one());
        due.due(call, question.applyAsLong(asked), -10 - cause);
        oneMore(want, 10 + cause);
        due.alike(call, State.of(asked), want);
    }

    /** An act that meets a cause, as the only one of THE ORDER: nothing is changed but what tells of it. */
    void actMeets(String act, int what, int tray, int a, int kind, int cause) {
        RelayTrays asked = one();
        RelayTrays other = one();
        for (RelayTrays x : new RelayTrays[] {asked, other}) {
            x.clear();
            x.step(what, tray, a, kind, -1);
        }
        Map<String, Long> want = State.of(other);
        due.due("run() of " + act, asked.run(), -10 - cause);
        oneMore(want, 2);
        oneMore(want, 3);
        oneMore(want, 10 + cause);
        want.put("begun()", 1L);
        want.put("where()", 0L);
        due.alike(act, State.of(asked), want);
    }

    /** An act that is done, as the only one: it changes what is told here, and nothing else; null is gone. */
    void actChanges(String act, int what, int tray, int a, int kind, Map<String, Long> changes) {
        RelayTrays asked = one();
        RelayTrays other = one();
        for (RelayTrays x : new RelayTrays[] {asked, other}) {
            x.clear();
            x.step(what, tray, a, kind, -1);
        }
        Map<String, Long> want = State.of(other);
        due.due("run() of " + act, asked.run(), 1);
        oneMore(want, 2);
        want.put("begun()", 1L);
        want.putAll(changes);
        want.values().removeIf(answer -> answer == null);
        due.alike(act, State.of(asked), want);
    }

    private static void oneMore(Map<String, Long> state, int what) {
        state.merge(State.count(what), 1L, Long::sum);
    }
}
