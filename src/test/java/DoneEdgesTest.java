import java.util.ArrayList;
import java.util.List;

/** The edges of promises 9 to 13 (adds, waters, sends, colds, undo), a sentence of the document a test. */
public final class DoneEdgesTest {
    private static final String SIX = "b0 0 0 0 0 0;".repeat(6);
    /** Ten things done: salt 0 to 5, sour 0 to 5. */
    private static final String TEN = "adds(0) adds(0) adds(0) adds(0) adds(0) adds(1) adds(1) adds(1) adds(1) adds(1)";

    // ---- promise 9

    /** "ADDED: a PART, 1 more .. how much there is of it then": from none to 5, of each PART, of no other. */
    private static void fromNoneToFive() {
        for (int part = 0; part < 4; part++) {
            String adds = "adds(" + part + ")=";
            new Run().go(adds + "1 " + adds + "2 " + adds + "3 " + adds + "4 now(2)=4 " + adds + "5 " + adds + "STATE"
                + " pot(" + part + ")=5 now(2)=5 now(4)=5");
        }
    }

    /** "STATE: 5": nothing has changed. */
    private static void fiveIsTheMost() {
        Run.told("p5 4 5 4;").go("adds(0)=STATE adds(1)=5 adds(1)=STATE adds(2)=STATE adds(3)=5 adds(3)=STATE now(2)=20"
            + " now(4)=2");
        Place.BRIM.unchangedBy("adds(0)=STATE adds(1)=STATE adds(2)=STATE adds(3)=STATE");
        new Place("b0 0 0 0 0 0;p5 0 0 0;", "", "").unchangedBy("adds(0)=STATE adds(0)=STATE");
    }

    /** "BAD": no such PART; ahead of STATE. */
    private static void noSuchPartIsAdded() {
        Place.unchangedEverywhere(Place.outside("adds(#)", 0, 3, "BAD"));
        Run.told("p5 5 5 5;").go("adds(-1)=BAD adds(4)=BAD adds(MIN)=BAD adds(MAX)=BAD adds(0)=STATE adds(3)=STATE");
    }

    /** Behind water, or undone, there is room again. */
    private static void roomAgain() {
        Run.told("p5 5 5 5;").go("adds(2)=STATE waters()=16 adds(2)=5 adds(2)=STATE undo()=1 pot(2)=4 adds(2)=5 undo()=1"
            + " undo()=0 adds(2)=STATE");
    }

    // ---- promise 10

    /** "WATERED: each PART is 1 less (0 at least)". */
    private static void noneBelowNothing() {
        Run.told("p1 0 2 5;").go("waters()=5 pot(0)=0 pot(1)=0 pot(2)=1 pot(3)=4 waters()=3 pot(0)=0 pot(2)=0 pot(3)=3"
            + " waters()=2 waters()=1 waters()=0 pot(0)=0 pot(1)=0 pot(2)=0 pot(3)=0 waters()=STATE now(4)=5");
        Run.told("p5 5 5 5;").go("waters()=16 waters()=12 waters()=8 waters()=4 waters()=0 waters()=STATE");
    }

    /** "STATE: nothing" is in THE POT; one PART of 1 is enough. */
    private static void nothingToWater() {
        Place.NEW.unchangedBy("waters()=STATE waters()=STATE");
        Place.EMPTY.unchangedBy("waters()=STATE waters()=STATE");
        Run.told("p1 0 0 0;").go("waters()=0 waters()=STATE");
        Run.told("p0 1 0 0;").go("waters()=0 waters()=STATE");
        Run.told("p0 0 1 0;").go("waters()=0 waters()=STATE");
        Run.told("p0 0 0 1;").go("waters()=0 waters()=STATE undo()=0 pot(3)=1 undo()=STATE");
    }

    /** Water that is undone brings back how much there was of each PART, not 1 more of each. */
    private static void wateredUndone() {
        Run.told("p0 1 0 5;").go("waters()=4 undo()=0 pot(0)=0 pot(1)=1 pot(2)=0 pot(3)=5 now(2)=6");
    }

    // ---- promise 11

    /** "SENT: his MIEN": CALM, the least and the greatest MIEN. */
    private static void leastAndGreatestMien() {
        Run.told("b0 0 0 0 0 0;b0 0 0 1 0 0;b1 0 0 0 1 0;").go("sends(0)=0 sends(1)=8 sends(2)=0 adds(0) sends(0)=1");
    }

    /** "his MIEN is SHOWN (of each one his latest)". */
    private static void hisLatest() {
        Run.told("b0 0 0 0 0 0;b0 0 0 0 0 0;").go("sends(0)=0 adds(3) brother(0, 8)=0 sends(1)=7 brother(0, 8)=0"
            + " sends(0)=7 brother(0, 8)=7 waters() sends(0)=0 brother(0, 8)=0 brother(1, 8)=7");
    }

    /** A spoon sent with nothing new to show is a thing done, too. */
    private static void sentAgain() {
        Run.told("b0 0 0 0 0 0;").go("sends(0)=0 sends(0)=0 now(4)=2 undo()=1 brother(0, 8)=0 undo()=0 brother(0, 8)=NONE");
    }

    /** "BAD": no such BROTHER. */
    private static void noSuchBrotherToSendTo() {
        new Run().go("sends(0)=BAD now(4)=0");
        Run.told("b0 0 0 0 0 0;").go("sends(-1)=BAD sends(0)=0 sends(1)=BAD now(4)=1");
        Run.told(SIX).go("sends(5)=0 sends(6)=BAD now(4)=1");
        Place.NEW.unchangedBy(Place.outside("sends(#)", 0, -1, "BAD"));
        Place.BUSY.unchangedBy(Place.outside("sends(#)", 0, 1, "BAD"));
        Place.EMPTY.unchangedBy(Place.outside("sends(#)", 0, 5, "BAD"));
        Place.BRIM.unchangedBy(Place.outside("sends(#)", 0, 5, "BAD"));
    }

    // ---- promise 12

    /** "how many have one": from none to all six, and back. */
    private static void howManyHaveOne() {
        Run.told(SIX).go("colds(0, 1)=1 colds(1, 1)=2 colds(2, 1)=3 colds(3, 1)=4 colds(4, 1)=5 colds(5, 1)=6 now(1)=63"
            + " colds(3, 0)=5 colds(5, 0)=4 colds(0, 0)=3 colds(1, 0)=2 colds(2, 0)=1 colds(4, 0)=0 now(1)=0");
    }

    /** "STATE: it is so": nothing has changed. */
    private static void itIsSo() {
        Run.told("b0 0 0 0 0 1;b0 0 0 0 0 0;").go("colds(0, 1)=STATE colds(1, 0)=STATE now(4)=0 now(1)=1 colds(0, 0)=0"
            + " colds(0, 0)=STATE colds(1, 1)=1 colds(1, 1)=STATE now(4)=2 now(1)=2");
        Place.BUSY.unchangedBy("colds(0, 1)=STATE colds(1, 1)=STATE");
        Place.EMPTY.unchangedBy("colds(0, 0)=STATE colds(3, 1)=STATE colds(5, 1)=STATE");
        Place.BRIM.unchangedBy("colds(0, 0)=STATE colds(1, 1)=STATE colds(4, 1)=STATE colds(5, 0)=STATE");
    }

    /** "COLD (is = 1), not any more (0)": any other is BAD. */
    private static void neitherColdNorNot() {
        Run.told("b0 0 0 0 0 0;").go("colds(0, -1)=BAD colds(0, 2)=BAD now(4)=0 colds(0, 1)=1 colds(0, 2)=BAD now(4)=1");
        Place.unchangedEverywhere(Place.outside("colds(0, #)", 0, 1, "BAD"));
        Place.EMPTY.unchangedBy(Place.outside("colds(5, #)", 0, 1, "BAD"));
    }

    /** "BAD": no such BROTHER, whether he is to have one or not; ahead of STATE. */
    private static void noSuchBrotherToCatchOne() {
        new Run().go("colds(0, 1)=BAD colds(0, 0)=BAD now(4)=0");
        Run.told(SIX).go("colds(6, 0)=BAD colds(6, 1)=BAD colds(-1, 0)=BAD colds(5, 1)=1 now(4)=1");
        Place.NEW.unchangedBy(Place.outside("colds(#, 0)", 0, -1, "BAD") + Place.outside("colds(#, 1)", 0, -1, "BAD"));
        Place.BUSY.unchangedBy(Place.outside("colds(#, 0)", 0, 1, "BAD") + Place.outside("colds(#, 1)", 0, 1, "BAD"));
        Place.BRIM.unchangedBy(Place.outside("colds(#, 0)", 0, 5, "BAD") + Place.outside("colds(#, 1)", 0, 5, "BAD"));
        Place.EMPTY.unchangedBy("colds(6, 2)=BAD colds(-1, -1)=BAD colds(MIN, MAX)=BAD colds(MAX, MIN)=BAD");
    }

    // ---- promise 13

    /** "STATE: none": nothing has changed. */
    private static void noneToUndo() {
        Place.NEW.unchangedBy("undo()=STATE undo()=STATE");
        Place.EMPTY.unchangedBy("undo()=STATE undo()=STATE");
        new Place("b1 1 1 1 0 1;p2 2 2 2;", "sees(1) keep(0) adds(0) undo()", "p1").unchangedBy("undo()=STATE undo()=STATE");
    }

    /** "how many more may be": 9 at most, 0 at last. */
    private static void howManyMore() {
        new Run().go(TEN + " undo()=9 undo()=8 undo()=7 undo()=6 undo()=5 undo()=4 undo()=3 undo()=2 undo()=1 undo()=0"
            + " now(2)=0 undo()=STATE now(4)=0");
    }

    /** "10 are known": with the tenth all can be undone, with the eleventh all but the first. */
    private static void theTenthAndOneMore() {
        Run nine = new Run().go(TEN + " now(4)=10");
        Run eleven = new Run().go("adds(2) " + TEN + " now(4)=10");
        for (int left = 9; left >= 0; left--) {
            nine.go("undo()=" + left + " now(2)=" + left);
            eleven.go("undo()=" + left + " now(2)=" + (left + 1));
        }
        nine.go("undo()=STATE now(2)=0");
        eleven.go("undo()=STATE now(2)=1 pot(2)=1");
    }

    /** "older ones are lost": they do not come back when newer ones are undone. */
    private static void lostOnesStayLost() {
        new Run().go("adds(2) adds(2) adds(2) " + TEN + " undo()=9 undo()=8 undo()=7 adds(3) now(4)=8 undo()=7 undo()=6"
            + " undo()=5 undo()=4 undo()=3 undo()=2 undo()=1 undo()=0 undo()=STATE pot(2)=3 now(2)=3");
    }

    /** Done and undone over and over: whatever row they are kept in goes round. */
    private static void goingRound() {
        Run run = Run.told("b0 0 0 0 0 0;p3 3 3 3;");
        List<Long> pots = new ArrayList<>();
        int done = 0;
        for (int turn = 0; turn < 60; turn++) {
            long pot = run.get("now(2)");
            String call = turn % 5 == 4 ? "waters()" : turn % 5 == 2 ? "sends(0)" : "adds(" + turn % 4 + ")";
            if (run.get(call) >= 0) {
                done++;
                pots.add(pot);
            }
            if (pots.size() > 10) {
                pots.remove(0);
            }
            for (int undone = 0; undone < 2 && turn % 4 == 3; undone++) {
                undoTo(run, pots);
            }
            run.go("now(4)=" + pots.size());
        }
        Check.holds("it went round some times", done > 40);
        while (!pots.isEmpty()) {
            undoTo(run, pots);
        }
        run.go("undo()=STATE");
    }

    private static void undoTo(Run run, List<Long> pots) {
        long pot = pots.remove(pots.size() - 1);
        run.go("undo()=" + pots.size() + " now(2)=" + pot);
    }

    /** "that was not refused": what is refused is not known, and pushes out nothing. */
    private static void refusedOnesAreNotKnown() {
        new Run().go(TEN + " adds(0)=STATE adds(4)=BAD adds(1)=STATE sends(0)=BAD colds(0, 1)=BAD now(4)=10");
        Run run = Run.told("b0 0 0 0 0 1;").go(TEN + " adds(0)=STATE adds(-1)=BAD sends(1)=BAD colds(0, 1)=STATE"
            + " colds(0, 2)=BAD");
        for (int left = 9; left >= 0; left--) {
            run.go("undo()=" + left);
        }
        run.go("undo()=STATE now(2)=0 waters()=STATE now(4)=0");
    }

    /** "the latest adds(), waters(), sends(), colds()": each of them, and nothing else, is undone. */
    private static void onlyThoseFour() {
        Run.told("b1 1 1 1 0 0;p1 1 1 1;").go("adds(0)=2 waters()=1 sends(0)=4 colds(0, 1)=1 now(4)=4"
            + " sees(1)=1 keep(0) rate(0, 0) type(98) plan(1, 0) middle(0) parted(0) odds(1, 1, 1) likings(0, 0) ask()"
            + " count(0) trace() now(4)=4 undo()=3 now(1)=0 brother(0, 8)=4 undo()=2 brother(0, 8)=NONE now(2)=1"
            + " undo()=1 now(2)=5 pot(0)=2 undo()=0 pot(0)=1 now(2)=4 undo()=STATE");
    }

    /** "what was SEEN stays", as it was seen. */
    private static void whatWasSeenStays() {
        Run.told("p1 2 3 4;").go("sees(0) adds(0) sees(1) undo()=0 count(1)=2 likings(0, 0)=1 likings(0, 1)=1"
            + " likings(3, 2)=4 undo()=STATE count(1)=2 adds(1) forget()=2 undo()=0 count(1)=0");
    }

    /** "(THE TRACE goes on, as behind undo())", and so do THE TEXT and IMAGES. */
    private static void traceTextImagesStay() {
        Run.told("b1 1 1 1 0 0;").go("adds(0) rate(0, 0) type(32) keep(1) undo()=0 trace()=1 count(2)=1 back(1)=0 pot(0)=1");
    }

    /** What is undone can't be done again by it: the next undo() goes further back. */
    private static void undoneIsNotDone() {
        new Run().go("adds(0) adds(1) adds(2) undo()=2 undo()=1 pot(0)=1 pot(1)=0 pot(2)=0 adds(3) undo()=1 pot(3)=0"
            + " undo()=0 pot(0)=0 undo()=STATE");
    }

    private static void addingAndWatering() {
        fromNoneToFive();
        fiveIsTheMost();
        noSuchPartIsAdded();
        roomAgain();
        noneBelowNothing();
        nothingToWater();
        wateredUndone();
    }

    private static void spoonsAndColds() {
        leastAndGreatestMien();
        hisLatest();
        sentAgain();
        noSuchBrotherToSendTo();
        howManyHaveOne();
        itIsSo();
        neitherColdNorNot();
        noSuchBrotherToCatchOne();
    }

    private static void undoing() {
        noneToUndo();
        howManyMore();
        theTenthAndOneMore();
        lostOnesStayLost();
        goingRound();
        refusedOnesAreNotKnown();
        onlyThoseFour();
        whatWasSeenStays();
        traceTextImagesStay();
        undoneIsNotDone();
    }

    public static void main(String[] args) {
        addingAndWatering();
        spoonsAndColds();
        undoing();
        Check.finish("DoneEdgesTest");
    }
}
