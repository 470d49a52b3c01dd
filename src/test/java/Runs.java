import java.util.ArrayList;
import java.util.List;
import java.util.regex.Matcher;
import java.util.regex.Pattern;

/**
 * Runs of calls on a new object, told as texts: "section(4)=0 section(0)=OUTSIDE". Each answer is
 * looked at; the model has to give it, too; and behind each call that is refused all has to be as
 * it is on an object on which that call was never made.
 */
final class Runs {
    private static final Pattern STEP = Pattern.compile("\\s*(\\w+\\([^()]*\\))=(-?\\w+)");
    private static final int MOST_CALLS = 512;

    private final Due due;

    private record Step(Call call, long answer) {
        boolean isRefused() {
            return answer <= PivotBeats.UNKNOWN && answer >= PivotBeats.FULL;
        }
    }

    Runs(String test) {
        due = new Due(test);
    }

    Due due() {
        return due;
    }

    /** What the document says, and the calls that would be answered otherwise if it were broken. */
    void says(String sentence, String... texts) {
        due.part(sentence);
        List<Step> steps = stepsOf(String.join(" ", texts));
        PivotBeats x = new PivotBeats();
        Model y = new Model();
        for (int i = 0; i < steps.size(); i++) {
            Step step = steps.get(i);
            String told = step.call + ", call " + (i + 1);
            due.is(told, step.call.on(x), step.answer);
            due.is(told + " on the model", step.call.on(y), step.answer);
            if (step.isRefused()) {
                leavesAllAsItWas(steps.subList(0, i), step.call);
            }
        }
    }

    private void leavesAllAsItWas(List<Step> ahead, Call refused) {
        PivotBeats with = new PivotBeats();
        PivotBeats without = new PivotBeats();
        for (Step step : ahead) {
            step.call.on(with);
            if (!step.isRefused()) {
                step.call.on(without);
            }
        }
        refused.on(with);
        long[] got = Everything.of(with);
        long[] want = Everything.of(without);
        for (int i = 0; i < got.length; i++) {
            due.is(Everything.call(i) + " behind " + refused + ", which was refused", got[i], want[i]);
        }
    }

    private static List<Step> stepsOf(String text) {
        List<Step> steps = new ArrayList<>();
        Matcher m = STEP.matcher(text);
        int at = 0;
        while (m.find(at) && m.start() == at) {
            steps.add(new Step(Call.read(m.group(1)), Call.number(m.group(2))));
            at = m.end();
        }
        if (steps.isEmpty() || !text.substring(at).isBlank()) {
            throw new IllegalArgumentException("no calls: " + text.substring(at));
        }
        if (steps.size() + Everything.count() > MOST_CALLS) {
            throw new IllegalArgumentException("too many calls for one object: " + text);
        }
        return steps;
    }

    void end() {
        due.end();
    }
}
