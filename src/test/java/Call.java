import java.util.ArrayList;
import java.util.List;
import java.util.Map;
import java.util.Set;
import java.util.regex.Matcher;
import java.util.regex.Pattern;

/**
 * A call with its numbers, as a text tells it: "tie(0, 8, 1, 9, 5)". Of mark() the second number
 * is true or false. It can be made on the class and on the model.
 */
record Call(String name, List<Integer> numbers) {
    static final Map<String, Integer> NAMES = Map.of(
        "UNKNOWN", -1, "OUTSIDE", -2, "STATE", -3, "FULL", -4, "NONE", -9,
        "MIN", Integer.MIN_VALUE, "MAX", Integer.MAX_VALUE, "true", 1, "false", 0, "ALL", 1048575);
    private static final Set<String> CHANGING = Set.of(
        "section", "beats", "start", "tie", "ear", "untie", "clear", "mark", "pin");
    private static final Pattern FORM = Pattern.compile("(\\w+)\\(([^()]*)\\)");

    static Call read(String text) {
        Matcher m = FORM.matcher(text);
        if (!m.matches()) {
            throw new IllegalArgumentException("no call: " + text);
        }
        List<Integer> numbers = new ArrayList<>();
        if (!m.group(2).isBlank()) {
            for (String number : m.group(2).split(",")) {
                numbers.add((int) number(number.trim()));
            }
        }
        return new Call(m.group(1), numbers);
    }

    static Call of(String name, int... numbers) {
        List<Integer> all = new ArrayList<>();
        for (int n : numbers) {
            all.add(n);
        }
        return new Call(name, all);
    }

    static long number(String text) {
        Integer named = NAMES.get(text);
        return named != null ? named : Long.parseLong(text);
    }

    private int n(int i) {
        return numbers.get(i);
    }

    long on(PivotBeats x) {
        switch (name) {
            case "section": return x.section(n(0));
            case "beats": return x.beats(n(0), n(1));
            case "start": return x.start(n(0));
            case "tie": return x.tie(n(0), n(1), n(2), n(3), n(4));
            case "ear": return x.ear(n(0), n(1));
            case "untie": return x.untie(n(0));
            case "clear": return x.clear();
            case "ticks": return x.ticks(n(0));
            case "ofSection": return x.ofSection(n(0), n(1));
            case "ofTie": return x.ofTie(n(0), n(1));
            case "tempo": return x.tempo(n(0), n(1));
            case "ratio": return x.ratio(n(0), n(1), n(2));
            case "off": return x.off(n(0), n(1));
            case "ring": return x.ring(n(0));
            case "mark": return x.mark(n(0), n(1) == 1);
            case "markAt": return x.markAt(n(0));
            case "nearest": return x.nearest(n(0));
            case "away": return x.away(n(0), n(1));
            case "pin": return x.pin(n(0), n(1));
            case "harm": return x.harm();
            case "play": return x.play(n(0));
            case "drift": return x.drift(n(0));
            case "clock": return x.clock(n(0), n(1));
            case "whole": return x.whole();
            case "where": return x.where(n(0), n(1));
            case "within": return x.within(n(0));
            case "pivot": return x.pivot(n(0), n(1), n(2));
            case "pivots": return x.pivots(n(0), n(1), n(2), n(3));
            case "many": return x.many(n(0));
            default: throw new IllegalArgumentException("no call: " + name);
        }
    }

    long on(Model y) {
        long answer = asked(y);
        if (CHANGING.contains(name)) {
            y.changed();
        }
        return answer;
    }

    private long asked(Model y) {
        switch (name) {
            case "section": return y.section(n(0));
            case "beats": return y.beats(n(0), n(1));
            case "start": return y.start(n(0));
            case "tie": return y.tie(n(0), n(1), n(2), n(3), n(4));
            case "ear": return y.ear(n(0), n(1));
            case "untie": return y.untie(n(0));
            case "clear": return y.clear();
            case "ticks": return Model.ticks(n(0));
            case "ofSection": return y.ofSection(n(0), n(1));
            case "ofTie": return y.ofTie(n(0), n(1));
            case "tempo": return y.tempo(n(0), n(1));
            case "ratio": return y.ratio(n(0), n(1), n(2));
            case "off": return y.off(n(0), n(1));
            case "ring": return y.ring(n(0));
            case "mark": return y.mark(n(0), n(1) == 1);
            case "markAt": return y.markAt(n(0));
            case "nearest": return y.nearest(n(0));
            case "away": return y.away(n(0), n(1));
            case "pin": return y.pin(n(0), n(1));
            case "harm": return y.harm();
            case "play": return y.play(n(0));
            case "drift": return y.drift(n(0));
            case "clock": return y.clock(n(0), n(1));
            case "whole": return y.whole();
            case "where": return y.where(n(0), n(1));
            case "within": return y.within(n(0));
            case "pivot": return y.pivot(n(0), n(1), n(2));
            case "pivots": return y.pivots(n(0), n(1), n(2), n(3));
            case "many": return y.many(n(0));
            default: throw new IllegalArgumentException("no call: " + name);
        }
    }

    @Override
    public String toString() {
        StringBuilder text = new StringBuilder(name).append('(');
        for (int i = 0; i < numbers.size(); i++) {
            text.append(i > 0 ? ", " : "");
            text.append(name.equals("mark") && i == 1 ? String.valueOf(n(i) == 1) : String.valueOf(n(i)));
        }
        return text.append(')').toString();
    }
}
