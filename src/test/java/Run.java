import java.lang.reflect.InvocationTargetException;
import java.lang.reflect.Method;
import java.util.ArrayList;
import java.util.Arrays;
import java.util.HashMap;
import java.util.List;
import java.util.Map;

/** One object of the class, its calls told as texts, such as "street(1, 110, 0)". */
final class Run {
    private static final int PROMISED_CALLS = 512;
    private static final Map<String, Method> CALLS = calls();

    private final Check check;
    private final HackneyStands x = new HackneyStands();
    private final List<String> told = new ArrayList<>();
    private boolean mayGoBeyond;

    Run(Check check) {
        this.check = check;
    }

    private static Map<String, Method> calls() {
        Map<String, Method> calls = new HashMap<>();
        for (Method method : HackneyStands.class.getDeclaredMethods()) {
            calls.put(method.getName(), method);
        }
        return calls;
    }

    private static int answer(HackneyStands object, String call) {
        int open = call.indexOf('(');
        String[] texts = call.substring(open + 1, call.length() - 1).split(", ");
        Object[] numbers = texts[0].isEmpty() ? new Object[0] : Arrays.stream(texts).map(Integer::valueOf).toArray();
        try {
            return (Integer) CALLS.get(call.substring(0, open)).invoke(object, numbers);
        } catch (IllegalAccessException | InvocationTargetException e) {
            throw new IllegalStateException(call, e);
        }
    }

    /** Lets this run go beyond the calls for which answers are promised. */
    Run beyond() {
        mayGoBeyond = true;
        return this;
    }

    /** Makes a call: its answer. */
    int ask(String call) {
        told.add(call);
        if (told.size() == PROMISED_CALLS + 1 && !mayGoBeyond) {
            check.due(call + ", a call beyond those for which answers are promised", 1, 0);
        }
        return answer(x, call);
    }

    /** Makes a call that has a due answer. */
    Run due(String call, int want) {
        check.due(call, ask(call), want);
        return this;
    }

    /** Makes a call that is refused: all that can be asked of the object stays what it is without the call. */
    Run refuses(String call, int want) {
        State without = State.of(again());
        due(call, want);
        check.due(call + ", refused: what it changed", State.of(again()).firstUnlike(without), -1);
        return this;
    }

    private HackneyStands again() {
        HackneyStands object = new HackneyStands();
        for (String call : told) {
            answer(object, call);
        }
        return object;
    }

    // ---- what a run begins with

    /** Makes calls none of which is refused. */
    Run make(String... calls) {
        for (String call : calls) {
            int answer = ask(call);
            boolean isRefused = call.startsWith("look") ? answer < -1 : answer < 0;
            if (isRefused) {
                check.due(call + ", to begin with", answer, 0);
            }
        }
        return this;
    }

    Run corners(int n) {
        for (int i = 0; i < n; i++) {
            make("corner()");
        }
        return this;
    }

    /** Corners 0 .. n - 1, each a street of told yards away from the next one. */
    Run row(int n, int yards) {
        corners(n);
        for (int i = 1; i < n; i++) {
            make("street(" + (100 * (i - 1) + i) + ", " + yards + ", 0)");
        }
        return this;
    }

    /** The next coach, at home at a corner, with a licence of year 0, looked at for good. */
    Run ready(int coach, int plate, int home) {
        return due("coach(" + plate + ", " + home + ")", coach)
            .make("licence(" + coach + ", 0, 0)", "look(" + coach + ", 9999)");
    }

    Run tape(String text) {
        for (int i = 0; i < text.length(); i += 4) {
            int n = Math.min(4, text.length() - i);
            int v = 0;
            for (int j = n - 1; j >= 0; j--) {
                v = v << 8 | text.charAt(i + j);
            }
            make("feed(" + n + ", " + v + ")");
        }
        return this;
    }

    /** A law in force from day 0 on. */
    Run law(int kind, String text) {
        return tape(text).make("law(" + kind + ", 0)");
    }

    Run passTo(int minute) {
        while (x.count(8) < minute) {
            make("minutes(" + Math.min(1440, minute - x.count(8)) + ")");
        }
        return this;
    }
}
