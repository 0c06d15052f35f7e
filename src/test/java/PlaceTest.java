/** Place tells whether a call has changed anything: so whatever does change something must be seen by it. */
public final class PlaceTest {
    private static final String[] CHANGES = {"type(32)", "clear()", "kitchen()", "adds(0)", "waters()", "sends(0)",
        "colds(0, 0)", "undo()", "sees(7)", "forget()", "rate(0, 0)", "keep(0)", "keep(1)", "back(0)", "back(1)",
        "adds(0) waters()", "adds(0) undo()", "clear() type(32)"};

    private static void everyChangeIsSeen() {
        for (String change : CHANGES) {
            boolean alike = Place.BUSY.looks(change).equals(Place.BUSY.looks(""));
            // what is done and then undone is no change, as long as there was room for one more
            Check.holds(change + " is seen", alike == change.equals("adds(0) undo()"));
        }
    }

    /** The oldest thing that could be undone is lost, though all else is as it was. */
    private static void aLostThingIsSeen() {
        boolean alike = Place.BRIM.looks("sends(0) undo()").equals(Place.BRIM.looks(""));
        Check.holds("a thing done in full and undone", !alike);
    }

    /** The text is read, too: other letters, as many of them, are another state. */
    private static void otherLettersAreSeen() {
        Check.holds("other letters", !Place.EMPTY.with("p1 1 1 1;").looks("").equals(Place.EMPTY.with("p1 1 1 2;").looks("")));
    }

    public static void main(String[] args) {
        everyChangeIsSeen();
        aLostThingIsSeen();
        otherLettersAreSeen();
        Check.finish("PlaceTest");
    }
}
