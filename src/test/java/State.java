import java.util.LinkedHashMap;
import java.util.Map;

/** All that can be asked of an object; what looking changes, seen(), is asked first. */
final class State {
    private State() {
    }

    static Map<String, Long> of(RelayTrays x) {
        Map<String, Long> state = new LinkedHashMap<>();
        state.put("seen()", x.seen());
        state.put("hand()", (long) x.hand());
        if (state.get("hand()") != RelayTrays.NONE) {
            state.put("seen() of the hand", x.seen());
        }
        for (int tray = 0; tray < 8; tray++) {
            tray(x, tray, state);
        }
        state.put("point()", (long) x.point());
        state.put("begun()", (long) x.begun());
        state.put("where()", (long) x.where());
        for (int what = 0; what <= 4; what++) {
            state.put(count(what), (long) x.count(what));
        }
        for (int cause = 1; cause <= 6; cause++) {
            state.put(count(10 + cause), (long) x.count(10 + cause));
        }
        return state;
    }

    static String count(int what) {
        return "count(" + what + ")";
    }

    /** Questions and their answers by turns. */
    static Map<String, Long> answers(Object... questionsAndAnswers) {
        Map<String, Long> all = new LinkedHashMap<>();
        for (int i = 0; i < questionsAndAnswers.length; i += 2) {
            all.put((String) questionsAndAnswers[i], ((Number) questionsAndAnswers[i + 1]).longValue());
        }
        return all;
    }

    /** Questions that a state has no more. */
    static Map<String, Long> gone(String... questions) {
        Map<String, Long> all = new LinkedHashMap<>();
        for (String question : questions) {
            all.put(question, null);
        }
        return all;
    }

    private static void tray(RelayTrays x, int tray, Map<String, Long> state) {
        state.put("kind(" + tray + ")", (long) x.kind(tray));
        int size = x.size(tray);
        state.put("size(" + tray + ")", (long) size);
        for (int other = 0; other < tray; other++) {
            state.put("same(" + tray + ", " + other + ")", (long) x.same(tray, other));
        }
        for (int i = 0; i < size; i++) {
            String look = "look(" + tray + ", " + i + ")";
            state.put(look, (long) x.look(tray, i));
            state.put("seen() behind " + look, x.seen());
        }
    }
}
