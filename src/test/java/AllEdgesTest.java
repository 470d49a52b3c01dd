import java.util.ArrayList;
import java.util.LinkedHashMap;
import java.util.LinkedHashSet;
import java.util.List;
import java.util.Map;
import java.util.Set;

/**
 * All promises: in each of some states (empty, full, ..) each call with every choice of numbers at the
 * edges, so that any two refusals meet. The model tells the answer that is due; behind calls that are
 * refused or only ask, all has to be as it was, and behind others as it is in the model.
 */
public final class AllEdgesTest {
    private static final Due DUE = new Due("AllEdgesTest");
    private static final int MIN = Integer.MIN_VALUE, MAX = Integer.MAX_VALUE;
    private static final int AT_ONCE = 100;
    private static final Set<String> CHANGING = Set.of(
        "section", "beats", "start", "tie", "ear", "untie", "clear", "mark", "pin");
    /** By call: what each of its numbers is. */
    private static final String[] FORMS = {
        "section beats", "beats section beats", "start tempo", "tie section value section value ear", "ear tie ear",
        "untie tie", "clear", "ticks value", "ofSection section six", "ofTie tie six", "tempo section which",
        "ratio section section which", "off tie which", "ring tie", "mark tempo bit", "markAt index", "nearest section",
        "away section which", "pin section pin", "harm", "play section", "drift tie", "clock section which", "whole",
        "where moment which", "within moment", "pivot section tempo two", "many many"};
    private static final String PIVOTS = "pivots tempo tempo set place";

    private final List<Call> made = new ArrayList<>();
    private final Map<String, int[]> edges = new LinkedHashMap<>();
    private final long[] allAsItWas;
    private final List<Call> waiting = new ArrayList<>();
    private Model untouched;

    private AllEdgesTest(String... calls) {
        for (String call : calls) {
            made.add(Call.read(call));
        }
        untouched = model();
        layOutEdges(untouched.many(0), untouched.many(1), untouched.whole());
        allAsItWas = Everything.of(object());
    }

    public static void main(String[] args) {
        String[] several = {"section(9)", "section(1)", "section(99)", "section(5)", "section(6)", "tie(0,8,2,10,3)",
            "tie(2,6,3,8,9)", "tie(0,8,3,8,5)", "tie(3,4,2,2,0)", "tie(1,8,4,9,7)", "pin(0,60)", "pin(2,61)", "pin(4,208)"};
        DUE.part("the empty piece");
        AllEdgesTest empty = new AllEdgesTest();
        empty.all();
        empty.choose(PIVOTS);
        DUE.part("one SECTION");
        new AllEdgesTest("section(1)").all();
        DUE.part("several SECTIONS");
        new AllEdgesTest(several).all();
        DUE.part("several SECTIONS, asked already");
        new AllEdgesTest(and(several, "harm()", "pivots(60,90,1048575,0)", "within(10000)")).all();
        DUE.part("several SECTIONS, no MARKS");
        new AllEdgesTest(and(several, "mark(40,0)", "mark(60,0)", "mark(80,0)", "mark(100,0)", "mark(120,0)", "mark(144,0)",
            "mark(176,0)", "mark(208,0)")).all();
        DUE.part("the full piece");
        new AllEdgesTest(full()).all();
        DUE.part("the full piece, cleared");
        new AllEdgesTest(and(full(), "clear()")).all();
        DUE.end();
    }

    private static String[] and(String[] calls, String... more) {
        List<String> all = new ArrayList<>(List.of(calls));
        all.addAll(List.of(more));
        return all.toArray(new String[0]);
    }

    /** 7 SECTIONS, 12 TIES, 16 MARKS, all PINNED but one. */
    private static String[] full() {
        List<String> calls = new ArrayList<>(List.of("start(400)"));
        for (int s = 0; s < 7; s++) {
            calls.add("section(" + (99 - 16 * s) + ")");
        }
        for (int s = 0; s < 6; s++) {
            calls.add("tie(" + s + ",10," + (s + 1) + "," + (8 + s % 3) + ",9)");
            calls.add("tie(" + (s + 1) + ",8,0,10,1)");
        }
        for (int m : new int[] {20, 61, 90, 110, 130, 300, 399, 400}) {
            calls.add("mark(" + m + ",1)");
        }
        int[] pins = {20, 400, 60, 208, 90, 399};
        for (int s = 0; s < pins.length; s++) {
            calls.add("pin(" + s + "," + pins[s] + ")");
        }
        return calls.toArray(new String[0]);
    }

    private PivotBeats object() {
        PivotBeats x = new PivotBeats();
        for (Call call : made) {
            call.on(x);
        }
        return x;
    }

    private Model model() {
        Model y = new Model();
        for (Call call : made) {
            call.on(y);
        }
        return y;
    }

    private void layOutEdges(int sections, int ties, long whole) {
        int end = (int) Math.min(whole, 100000000L);
        edge("section", MIN, -1, 0, 1, sections - 1, sections, 6, 7, MAX);
        edge("tie", MIN, -1, 0, 1, ties - 1, ties, 11, 12, MAX);
        edge("value", MIN, -1, 0, 19, 20, MAX);
        edge("beats", MIN, -1, 0, 1, 99, 100, MAX);
        edge("tempo", MIN, 0, 19, 20, 60, 208, 400, 401, MAX);
        edge("ear", MIN, -1, 0, 9, 10, MAX);
        edge("which", MIN, -1, 0, 1, 2, MAX);
        edge("bit", 0, 1);
        edge("six", MIN, -1, 0, 1, 2, 3, 4, 5, 6, MAX);
        edge("many", MIN, -1, 0, 1, 2, 3, 4, 5, 6, 7, 8, 9, MAX);
        edge("index", MIN, -1, 0, 7, 8, 15, 16, MAX);
        edge("pin", MIN, -10, -9, -8, -1, 0, 19, 20, 60, 400, 401, MAX);
        edge("moment", MIN, -1, 0, end - 1, end, end + 1, 99999999, 100000000, 100000001, MAX);
        edge("two", MIN, -2, -1, 0, 29, 30, 399, 400, MAX);
        edge("place", MIN, -2, -1, 0, 1, 4, 5, MAX);
        edge("set", MIN, -1, 0, 1, 524289, 1048575, 1048576, MAX);
    }

    private void edge(String kind, int... numbers) {
        Set<Integer> once = new LinkedHashSet<>();
        for (int n : numbers) {
            once.add(n);
        }
        edges.put(kind, once.stream().mapToInt(Integer::intValue).toArray());
    }

    private void all() {
        for (String form : FORMS) {
            choose(form);
        }
    }

    private void choose(String form) {
        String[] words = form.split(" ");
        choose(words, 1, new int[words.length - 1]);
        askWaiting();
    }

    private void choose(String[] words, int at, int[] numbers) {
        if (at == words.length) {
            tryCall(Call.of(words[0], numbers));
            return;
        }
        for (int n : edges.get(words[at])) {
            numbers[at - 1] = n;
            choose(words, at + 1, numbers);
        }
    }

    private void tryCall(Call call) {
        if (!CHANGING.contains(call.name())) {
            waiting.add(call);
        } else {
            long answer = call.on(untouched);
            if (answer <= -1 && answer >= -4) {
                waiting.add(call);
            } else {
                isAsInTheModel(call, answer, untouched);
                untouched = model();
            }
        }
        if (waiting.size() == AT_ONCE) {
            askWaiting();
        }
    }

    private void isAsInTheModel(Call call, long answer, Model y) {
        PivotBeats x = object();
        DUE.is(call.toString(), call.on(x), answer);
        for (int i = 0; i < Everything.count(); i++) {
            Call ask = Everything.call(i);
            DUE.is(ask + " behind " + call, ask.on(x), ask.on(y));
        }
    }

    /** Some calls that are to change nothing, and all that can be asked behind them. */
    private void askWaiting() {
        PivotBeats x = object();
        Model y = model();
        for (Call call : waiting) {
            DUE.is(call.toString(), call.on(x), call.on(y));
        }
        long[] all = Everything.of(x);
        String name = waiting.isEmpty() ? "nothing" : waiting.get(waiting.size() - 1).name();
        for (int i = 0; i < all.length; i++) {
            DUE.is(Everything.call(i) + " behind calls that change nothing, up to " + name, all[i], allAsItWas[i]);
        }
        waiting.clear();
    }
}
