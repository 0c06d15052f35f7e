import java.util.Random;

/** All promises at once: long runs of calls, the same ones each time, against the document written out plainly. */
public final class ModelTest {
    private static final int RUNS = 300;
    private static final int CALLS = 512;
    private static final String[] NAMES = {
        "type", "clear", "kitchen", "pot", "brother", "off", "now", "adds", "waters", "sends", "colds", "undo", "plan",
        "middle", "parted", "odds", "sees", "forget", "likings", "ask", "rate", "keep", "back", "count", "trace"};
    /** How often each is called, in the order of the names. */
    private static final int[] SHARES = {
        8, 1, 2, 6, 30, 15, 20, 60, 15, 25, 25, 20, 16, 6, 2, 16, 14, 5, 8, 5, 25, 6, 8, 8, 4};
    private static final int[] FAR = {-1, -2, 7, 9, 11, 64, 256, Integer.MAX_VALUE, Integer.MIN_VALUE};

    private final Random random;
    private final TastelessCook cook = new TastelessCook();
    private final PlainCook plain = new PlainCook();
    private int calls = 0;
    private final StringBuilder run = new StringBuilder();

    private ModelTest(long seed) {
        random = new Random(seed);
    }

    private void call(String name, int a, int b, int c) {
        if (calls == CALLS) {
            return;
        }
        calls++;
        run.append(name).append('(').append(a).append(", ").append(b).append(", ").append(c).append(") ");
        long want = plain.call(name, a, b, c);
        long got = Run.answer(cook, name, a, b, c);
        Check.due(got == want ? name : run.toString(), got, want);
    }

    /** Mostly a number below end, now and then one that is not as told. */
    private int number(int end) {
        return random.nextInt(25) == 0 ? FAR[random.nextInt(FAR.length)] : random.nextInt(end);
    }

    private void callOne(String name) {
        switch (name) {
            case "type": call(name, "bp;019 x".charAt(random.nextInt(8)), 0, 0); break;
            case "brother": call(name, number(6), number(10), 0); break;
            case "off": call(name, number(6), number(5), 0); break;
            case "now": call(name, number(6), 0, 0); break;
            case "sends": call(name, number(6), 0, 0); break;
            case "colds": call(name, number(6), number(2), 0); break;
            case "plan": call(name, 1 << random.nextInt(3) | number(8), number(7) - 1, 0); break;
            case "middle": call(name, number(6), 0, 0); break;
            case "parted": call(name, number(3), 0, 0); break;
            case "odds": call(name, number(11), number(5), number(2)); break;
            case "sees": call(name, number(9), 0, 0); break;
            case "likings": call(name, number(4), number(3), 0); break;
            case "rate": call(name, number(6), number(6), 0); break;
            case "keep": case "back": call(name, number(2), 0, 0); break;
            default: call(name, number(5), 0, 0);
        }
    }

    private String item(char kind, int spread) {
        StringBuilder item = new StringBuilder().append(kind);
        int base = random.nextInt(6);
        for (int i = 0; i < 4; i++) {
            int like = Math.max(0, Math.min(5, base + random.nextInt(2 * spread + 1) - spread));
            item.append(i == 0 ? "" : " ").append(like);
        }
        if (kind == 'b') {
            item.append(' ').append(random.nextInt(3)).append(' ').append(random.nextInt(2));
        }
        return item.append(';').toString();
    }

    private String text() {
        StringBuilder text = new StringBuilder();
        int brothers = random.nextInt(7);
        int pot = random.nextInt(8);
        for (int b = 0; b <= brothers; b++) {
            if (b == pot) {
                text.append(item('p', 3));
            }
            text.append(b < brothers ? item('b', 1 + random.nextInt(3)) : "");
        }
        for (int n = random.nextInt(4); n > 0; n--) {
            int at = random.nextInt(text.length() + 1);
            text.insert(at, random.nextInt(3) == 0 ? "bp;0157 x-".charAt(random.nextInt(10)) : ' ');
        }
        return text.toString();
    }

    private void tell() {
        call("clear", 0, 0, 0);
        for (char letter : text().toCharArray()) {
            call("type", letter, 0, 0);
        }
        call("kitchen", 0, 0, 0);
    }

    private static int shares() {
        int sum = 0;
        for (int share : SHARES) {
            sum += share;
        }
        return sum;
    }

    private String anyName() {
        int left = random.nextInt(shares());
        int i = 0;
        while (left >= SHARES[i]) {
            left -= SHARES[i];
            i++;
        }
        return NAMES[i];
    }

    /** What is seen of a stranger who has likes: so rows are left over more often than by any miens. */
    private void watch() {
        int[] likes = {random.nextInt(6), random.nextInt(6), random.nextInt(6), random.nextInt(6)};
        call("forget", 0, 0, 0);
        for (int n = 0; n < 5; n++) {
            call("sees", mienOf(likes), 0, 0);
            call("likings", random.nextInt(4), random.nextInt(3), 0);
            call("ask", 0, 0, 0);
            call(random.nextInt(3) == 0 ? "waters" : "adds", random.nextInt(4), 0, 0);
        }
    }

    private int mienOf(int[] likes) {
        int mien = 0;
        int furthest = 0;
        for (int part = 0; part < 4; part++) {
            int by = (int) plain.call("pot", part, 0, 0) - likes[part];
            if (Math.abs(by) > furthest) {
                furthest = Math.abs(by);
                mien = 2 * part + (by > 0 ? 1 : 2);
            }
        }
        return mien;
    }

    private void go() {
        tell();
        while (calls < CALLS) {
            int turn = random.nextInt(120);
            if (turn == 0) {
                tell();
            } else if (turn == 1) {
                watch();
            } else {
                callOne(anyName());
            }
        }
    }

    public static void main(String[] args) {
        for (int seed = 0; seed < RUNS; seed++) {
            new ModelTest(seed).go();
        }
        Check.finish("ModelTest");
    }
}
