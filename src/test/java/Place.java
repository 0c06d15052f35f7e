import java.util.ArrayList;
import java.util.HashMap;
import java.util.List;
import java.util.Map;

/**
 * A state in which calls are refused: how to come to it, and all that can be seen of it from there.
 * "Refused, and nothing changes": with the refused calls and without them, all looks must be alike.
 */
final class Place {
    /** Nothing was ever told. */
    static final Place NEW = new Place("", "", "");
    /** Some of everything, and a text that can be read. */
    static final Place BUSY = new Place("b1 2 3 4 0 0; b0 0 5 2 2 1; p3 0 1 5;",
        "adds(1) keep(0) sends(1) colds(0, 1) waters() sees(7) keep(1) adds(1) sees(7)", "p1 2 3 4; b5 4 3 2 1 1;");
    /** Nothing in the pot, nothing done, six brothers. */
    static final Place EMPTY = new Place("b0 0 0 0 0 0;b1 0 0 0 0 0;b0 1 0 0 1 0;b2 2 2 2 2 1;b5 5 5 5 0 1;b1 1 1 1 1 1;",
        "", "");
    /** As much of everything as there may be. */
    static final Place BRIM = new Place("b5 5 5 5 2 1;".repeat(3) + "b4 5 5 5 0 0;".repeat(3) + "p5 5 5 4;",
        "rate(5, 5) rate(3, 0) keep(0) sends(0) sends(3) sees(1) colds(0, 0) colds(4, 1) sends(5) waters() sees(1)"
        + " adds(0) sees(3) adds(1) sees(1) adds(2) keep(1) adds(3) adds(3)",
        "b1 1 1 1 1 1;".repeat(6) + "p2 2 2 2;" + " ".repeat(33));
    static final Place[] ALL = {NEW, BUSY, EMPTY, BRIM};

    private static final String SURFACE = surface();
    private static final String LAYER = "pot(0) pot(1) pot(2) pot(3) now(1) brother(0, 8) brother(1, 8) brother(2, 8)"
        + " brother(3, 8) brother(4, 8) brother(5, 8)";
    private static final int UNDOABLE = 10;
    private static final Map<String, List<Long>> KNOWN = new HashMap<>();

    private final String told;
    private final String calls;
    private final String letters;

    Place(String told, String calls, String letters) {
        this.told = told;
        this.calls = calls;
        this.letters = letters;
    }

    /** The same, but with other letters in the text. */
    Place with(String otherLetters) {
        return new Place(told, calls, otherLetters);
    }

    private static String surface() {
        StringBuilder surface = new StringBuilder("pot(0) pot(1) pot(2) pot(3) now(0) now(1) now(2) now(3) now(4)");
        for (int b = 0; b < 6; b++) {
            for (int what = 0; what <= 8; what++) {
                surface.append(" brother(").append(b).append(", ").append(what).append(')');
            }
        }
        surface.append(" middle(0) middle(1) middle(2) middle(3) middle(4) parted(0) parted(1) plan(1, -1) plan(1, 0)");
        for (int part = 0; part < 4; part++) {
            surface.append(" likings(").append(part).append(", 1) likings(").append(part).append(", 2)");
        }
        return surface.append(" likings(0, 0) odds(3, 1, 0) ask() count(0) count(1) count(2) trace()").toString();
    }

    Run made() {
        Run run = told.isEmpty() ? new Run() : Run.told(told);
        return run.go(calls).typed(letters);
    }

    private static void look(Run run, String calls, List<Long> seen) {
        for (String call : calls.split("(?<=\\)) ")) {
            seen.add(run.get(call));
        }
    }

    /** What is open to see, what can be undone, both images, what the text tells: each looked at from a new object. */
    List<Long> looks(String more) {
        List<Long> seen = new ArrayList<>();
        Run open = made().go(more);
        look(open, SURFACE, seen);
        for (int n = 0; n <= UNDOABLE; n++) {
            look(open, "undo() " + LAYER, seen);
        }
        for (String change : new String[] {"back(0)", "back(1)", "kitchen()"}) {
            look(made().go(more), change + " " + SURFACE, seen);
        }
        return seen;
    }

    private List<Long> looks() {
        return KNOWN.computeIfAbsent(told + "|" + calls + "|" + letters, key -> looks(""));
    }

    /** Calls (with the answers that are due) that must leave all as it is. */
    void unchangedBy(String run) {
        Check.holds("nothing has changed: " + made() + run, looks(run).equals(looks()));
    }

    static void unchangedEverywhere(String run) {
        for (Place place : ALL) {
            place.unchangedBy(run);
        }
    }

    /**
     * All numbers that are not as told in one place of a call: the first on both sides, the last on both, some that
     * a narrower number would wrap around into those allowed.
     */
    static String outside(String call, int least, int most, String answer) {
        StringBuilder run = new StringBuilder();
        int[] numbers = {least - 1, least - 2, most + 1, most + 2, least - 256, least + 256, least + 65536,
            least - 65536, most + (1 << 30), Integer.MIN_VALUE, Integer.MIN_VALUE + 1, Integer.MIN_VALUE + most,
            Integer.MAX_VALUE - 1, Integer.MAX_VALUE};
        for (int number : numbers) {
            if (number < least || number > most) {
                run.append(call.replace("#", Integer.toString(number))).append('=').append(answer).append(' ');
            }
        }
        return run.toString();
    }
}
