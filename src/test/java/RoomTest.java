import java.lang.management.ManagementFactory;

/** All calls of a run live in one room: an object is small, and calls on it make nothing more. */
public final class RoomTest {
    private static final int ROUNDS = 300;
    /** The machine's own doings may take a little; one int[1] a round alone would take 4800 bytes. */
    private static final long LITTLE = 4000;
    private static final long OBJECT = 64 * 1024;

    private static long used() {
        return ((com.sun.management.ThreadMXBean) ManagementFactory.getThreadMXBean())
            .getThreadAllocatedBytes(Thread.currentThread().getId());
    }

    private static long round(TastelessCook cook, String text) {
        long sum = 0;
        for (int i = 0; i < text.length(); i++) {
            sum += cook.type(text.charAt(i));
        }
        sum += cook.kitchen() + cook.pot(0) + cook.brother(0, 6) + cook.off(0, 3) + cook.now(0) + cook.now(3);
        sum += cook.adds(0) + cook.waters() + cook.sends(1) + cook.colds(0, 1) + cook.undo() + cook.keep(0);
        sum += cook.plan(3, -1) + cook.plan(32, 2) + cook.middle(4) + cook.parted(1) + cook.odds(3, 2, 0);
        sum += cook.sees(2) + cook.likings(1, 1) + cook.ask() + cook.forget() + cook.rate(3, 1) + cook.back(0);
        return sum + cook.count(0) + cook.trace() + cook.clear();
    }

    public static void main(String[] args) {
        String text = "b1 2 3 4 0 1;".repeat(3) + "b5 0 5 0 2 0;".repeat(3) + "p1 1 2 2;";
        round(new TastelessCook(), text);
        used();
        long before = used();
        TastelessCook cook = new TastelessCook();
        long behind = used();
        Check.holds("an object takes " + (behind - before) + " bytes", behind - before < OBJECT);
        long sum = round(cook, text);
        before = used();
        for (int n = 0; n < ROUNDS; n++) {
            sum += round(cook, text);
        }
        behind = used();
        Check.holds("calls take " + (behind - before) + " bytes", behind - before < LITTLE);
        Check.holds("answers were reckoned", sum != 0);
        Check.finish("RoomTest");
    }
}
