import java.util.ArrayList;
import java.util.List;

/**
 * All that can be asked of an object, within the calls that it may be used for: to see that a
 * call which is refused, or which only asks, leaves all as it was.
 */
final class Everything {
    private static final List<Call> CALLS = calls();

    private Everything() {
    }

    static int count() {
        return CALLS.size();
    }

    static Call call(int i) {
        return CALLS.get(i);
    }

    static long[] of(PivotBeats x) {
        long[] answers = new long[CALLS.size()];
        for (int i = 0; i < answers.length; i++) {
            answers[i] = CALLS.get(i).on(x);
        }
        return answers;
    }

    private static void each(List<Call> calls, String name, int first, int firstUpTo, int secondUpTo) {
        for (int n = first; n < firstUpTo; n++) {
            if (secondUpTo == 0) {
                calls.add(Call.of(name, n));
            }
            for (int o = 0; o < secondUpTo; o++) {
                calls.add(Call.of(name, n, o));
            }
        }
    }

    private static List<Call> calls() {
        List<Call> calls = new ArrayList<>();
        each(calls, "many", 0, 9, 0);
        each(calls, "ofSection", 0, 7, 6);
        each(calls, "ofTie", 0, 12, 6);
        each(calls, "tempo", 0, 7, 2);
        each(calls, "off", 0, 12, 2);
        each(calls, "ring", 0, 12, 0);
        each(calls, "markAt", 0, 16, 0);
        each(calls, "nearest", 0, 7, 0);
        each(calls, "away", 0, 7, 2);
        calls.add(Call.of("harm"));
        each(calls, "play", 0, 7, 0);
        each(calls, "drift", 0, 12, 0);
        each(calls, "clock", 0, 7, 2);
        calls.add(Call.of("whole"));
        for (int a = 0; a < 7; a++) {
            for (int b = 0; b < 7; b++) {
                calls.add(Call.of("ratio", a, b, 0));
            }
            calls.add(Call.of("pivot", a, 60, -1));
        }
        for (int t : new int[] {0, 1000, 10000, 30000, 100000000}) {
            calls.add(Call.of("where", t, 0));
            calls.add(Call.of("where", t, 1));
            calls.add(Call.of("within", t));
        }
        return calls;
    }
}
