import java.util.regex.Matcher;
import java.util.regex.Pattern;

/**
 * One object and the calls on it, told as a text: "adds(0)=1 waters() pot(0)=BAD".
 * What stands behind = is the answer that is due; MIN, MAX and the document's constants may stand for numbers.
 */
final class Run {
    /** The document: what later calls answer is free, so no test may go by it. */
    static final int MOST_CALLS = 512;
    private static final Pattern CALL = Pattern.compile("(\\w+)\\(([^)]*)\\)(?:=(\\S+))?");

    private final TastelessCook cook = new TastelessCook();
    private final StringBuilder past = new StringBuilder();
    private int calls = 0;

    static long answer(TastelessCook cook, String name, int a, int b, int c) {
        switch (name) {
            case "type": return cook.type(a);
            case "clear": return cook.clear();
            case "kitchen": return cook.kitchen();
            case "pot": return cook.pot(a);
            case "brother": return cook.brother(a, b);
            case "off": return cook.off(a, b);
            case "now": return cook.now(a);
            case "adds": return cook.adds(a);
            case "waters": return cook.waters();
            case "sends": return cook.sends(a);
            case "colds": return cook.colds(a, b);
            case "undo": return cook.undo();
            case "plan": return cook.plan(a, b);
            case "middle": return cook.middle(a);
            case "parted": return cook.parted(a);
            case "odds": return cook.odds(a, b, c);
            case "sees": return cook.sees(a);
            case "forget": return cook.forget();
            case "likings": return cook.likings(a, b);
            case "ask": return cook.ask();
            case "rate": return cook.rate(a, b);
            case "keep": return cook.keep(a);
            case "back": return cook.back(a);
            case "count": return cook.count(a);
            case "trace": return cook.trace();
            default: throw new IllegalArgumentException(name);
        }
    }

    private static int number(String word) {
        switch (word) {
            case "MIN": return Integer.MIN_VALUE;
            case "MAX": return Integer.MAX_VALUE;
            case "BAD": return -1;
            case "STATE": return -2;
            case "FULL": return -3;
            case "NONE": return -9;
            case "NO": return -1000000;
            default: return Integer.parseInt(word);
        }
    }

    private long call(String name, String arguments) {
        calls++;
        if (calls > MOST_CALLS) {
            throw new IllegalStateException("a test that goes beyond " + MOST_CALLS + " calls: " + past);
        }
        String[] words = arguments.isBlank() ? new String[0] : arguments.trim().split("\\s*,\\s*");
        int[] numbers = new int[3];
        for (int i = 0; i < words.length; i++) {
            numbers[i] = number(words[i]);
        }
        past.append(name).append('(').append(arguments).append(") ");
        return answer(cook, name, numbers[0], numbers[1], numbers[2]);
    }

    /** What one call answers. */
    long get(String call) {
        Matcher matcher = CALL.matcher(call);
        if (!matcher.matches()) {
            throw new IllegalArgumentException(call);
        }
        return call(matcher.group(1), matcher.group(2));
    }

    /** Calls one behind another; each answer that is told is looked at. */
    Run go(String run) {
        Matcher matcher = CALL.matcher(run);
        int end = 0;
        while (matcher.find()) {
            if (!run.substring(end, matcher.start()).isBlank()) {
                throw new IllegalArgumentException(run);
            }
            end = matcher.end();
            long got = call(matcher.group(1), matcher.group(2));
            if (matcher.group(3) != null) {
                Check.due(past.toString(), got, number(matcher.group(3)));
            }
        }
        if (!run.substring(end).isBlank()) {
            throw new IllegalArgumentException(run);
        }
        return this;
    }

    Run typed(String letters) {
        past.append('"').append(letters).append("\" ");
        int length = past.length();
        for (int i = 0; i < letters.length(); i++) {
            if (call("type", Integer.toString(letters.charAt(i))) < 0) {
                throw new IllegalStateException("a letter was refused: " + past);
            }
            past.setLength(length);
        }
        return this;
    }

    static Run told(String letters) {
        Run run = new Run().typed(letters);
        long items = run.get("kitchen()");
        Check.holds(run.past + "is without fault", items >= 0);
        return run;
    }

    @Override
    public String toString() {
        return past.toString();
    }
}
