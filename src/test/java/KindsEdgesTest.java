/** The edges of promises 22 to 26 (rate, keep, back, count, trace), a sentence of the document a test. */
public final class KindsEdgesTest {
    private static final String SIX = "b0 0 0 0 0 0;".repeat(6);
    private static final int[] TRACES = {1, 11, 101, 1011, 10101, 100001};

    // ---- promise 22

    /** "NO: BAD": KINDS are 0 .. 5. */
    private static void noSuchKind() {
        Run.told("b0 0 0 0 0 0;").go("rate(-1, 0)=NO rate(0, 0)=0 rate(5, 0)=0 rate(6, 0)=NO");
        Place.unchangedEverywhere(Place.outside("rate(#, 0)", 0, 5, "NO"));
        Place.BRIM.unchangedBy(Place.outside("rate(#, 5)", 0, 5, "NO"));
    }

    /** "NO: BAD": no such BROTHER, of none, one, six, for each KIND. */
    private static void noSuchBrotherToRate() {
        new Run().go("rate(0, 0)=NO rate(5, 0)=NO rate(0, -1)=NO trace()=0");
        Run.told("b0 0 0 0 0 0;").go("rate(0, -1)=NO rate(0, 0)=0 rate(0, 1)=NO trace()=1");
        Run.told(SIX).go("rate(4, 5)=5 rate(4, 6)=NO rate(4, -1)=NO trace()=10101");
        for (int kind = 0; kind <= 5; kind++) {
            Place.BUSY.unchangedBy(Place.outside("rate(" + kind + ", #)", 0, 1, "NO"));
            Place.BRIM.unchangedBy(Place.outside("rate(" + kind + ", #)", 0, 5, "NO"));
        }
        Place.NEW.unchangedBy(Place.outside("rate(0, #)", 0, -1, "NO"));
        Place.EMPTY.unchangedBy("rate(6, 6)=NO rate(-1, -1)=NO rate(MIN, MIN)=NO rate(MAX, MAX)=NO");
    }

    /** RATE of one who MINDS nothing, is not BLUNT, CALM, number 0, with nothing in THE POT. */
    private static void theLeastOfEachKind() {
        Run.told("b0 0 0 0 0 0;").go("rate(0, 0)=0 rate(1, 0)=0 rate(2, 0)=0 rate(3, 0)=0 rate(4, 0)=0 rate(5, 0)=0");
    }

    /** RATE of one who MINDS 20, BLUNT 2, number 5, with all of THE POT full. */
    private static void theGreatestOfEachKind() {
        Run.told("b5 5 5 5 0 0;".repeat(5) + "b0 0 0 0 2 0;p5 5 5 5;").go("rate(0, 5)=20 rate(1, 5)=22 rate(2, 5)=19"
            + " rate(3, 5)=44 rate(4, 5)=24 rate(5, 5)=40");
    }

    /** A RATE may be below 0, -1 too: it is not BAD then. */
    private static void ratesBelowNothing() {
        Run.told("b0 0 0 1 0 0;").go("rate(2, 0)=-7 rate(4, 0)=-7 trace()=10202");
        Run.told("b1 0 0 0 0 0;").go("rate(2, 0)=-1 trace()=101");
        Run.told("b0 0 0 1 0 0;".repeat(6)).go("rate(4, 0)=-7 rate(4, 1)=-6 rate(4, 5)=-2");
    }

    /** "BROTHER his MIND": all OFFS, BLUNT or not; half the PEPPER with a COLD. */
    private static void theMindOfABrother() {
        Run.told("b0 0 0 0 2 1;p1 1 1 5;").go("rate(0, 0)=5 colds(0, 0)=0 rate(0, 0)=8");
    }

    /** "up, and how much there is in THE POT": of its PEPPER all, COLD or not. */
    private static void aCellarersPot() {
        Run.told("b0 0 0 2 0 1;p0 0 0 5;").go("rate(5, 0)=5 colds(0, 0)=0 rate(5, 0)=8");
    }

    /** "numbers in brackets are added .. each once": for each KIND those of all KINDS above it, too. */
    private static void eachBodyOnce() {
        for (int kind = 0; kind <= 5; kind++) {
            Run.told(SIX).go("rate(" + kind + ", 0) trace()=" + TRACES[kind] + " rate(" + kind + ", 5) trace()="
                + 2 * TRACES[kind]);
        }
    }

    /** What is refused leaves no trace. */
    private static void refusedLeavesNoTrace() {
        Run.told("b0 0 0 0 0 0;").go("rate(0, 1)=NO rate(6, 0)=NO rate(-1, 0)=NO rate(3, -1)=NO trace()=0 rate(0, 0)=0"
            + " rate(6, 1)=NO trace()=1");
    }

    /** Nothing but THE TRACE changes by rate(). */
    private static void ratingChangesNothingElse() {
        Run.told("b1 0 0 0 0 0;p0 1 0 0;").go("adds(3) sees(7) type(32) rate(0, 0) rate(1, 0) rate(2, 0) rate(3, 0)"
            + " rate(4, 0) rate(5, 0) now(4)=1 brother(0, 8)=NONE count(1)=1 count(2)=1 back(0)=STATE undo()=0 now(2)=1");
    }

    // ---- promise 23

    /** "IMAGES 0, 1": any other is BAD. */
    private static void noSuchImage() {
        new Run().go("keep(-1)=BAD keep(2)=BAD back(0)=STATE back(1)=STATE keep(0)=0 keep(1)=0 back(0)=0 back(1)=0");
        Place.unchangedEverywhere(Place.outside("keep(#)", 0, 1, "BAD"));
        Place.unchangedEverywhere(Place.outside("back(#)", 0, 1, "BAD"));
    }

    /** "how many are CALM": none, all six; not bits. */
    private static void howManyAreCalm() {
        new Run().go("keep(0)=0 back(0)=0");
        Run.told(SIX).go("keep(0)=6 adds(0)=1 keep(1)=0 back(0)=6 back(1)=0");
        Run.told("b5 5 5 5 0 0;".repeat(5) + "b0 0 0 0 0 0;").go("keep(1)=1 back(1)=1 now(0)=32");
    }

    /** "An IMAGE is kept": the latest counts, each for itself. */
    private static void theLatestIsKept() {
        new Run().go("keep(0) adds(0) keep(1) adds(0) keep(0) adds(0)=3 back(1)=0 pot(0)=1 back(0)=0 pot(0)=2 back(1)=0"
            + " pot(0)=1");
    }

    /** "keep NOW (THE POT, COLDS, what was SHOWN)": each of them, NONE too. */
    private static void whatAnImageKeeps() {
        Run.told("b0 0 0 0 0 1;b1 0 0 0 0 0;p1 2 3 4;").go("sends(1)=7 keep(0)=0 waters() colds(0, 0) colds(1, 1) sends(0)"
            + " sends(1) back(0)=0 pot(0)=1 pot(1)=2 pot(2)=3 pot(3)=4 now(1)=1 brother(0, 8)=NONE brother(1, 8)=7");
    }

    /** "nothing else": what was SEEN, THE TEXT, THE TRACE, the other IMAGE are as they were. */
    private static void whatAnImageDoesNotKeep() {
        Run.told("b0 0 0 0 0 0;").go("sees(2) type(98) rate(0, 0) keep(0)=1 sees(2) type(32) rate(0, 0) adds(0) keep(1)=0"
            + " forget()=2 sees(4) clear()=2 type(112) back(0)=1 count(1)=1 count(2)=1 trace()=2 likings(1, 1)=1 back(1)=0"
            + " pot(0)=1 kitchen()=-11");
    }

    /** Keeping is no thing done: what can be UNDONE stays, and an IMAGE is not touched by undo(). */
    private static void keepingCanNotBeUndone() {
        new Run().go("keep(0) now(4)=0 undo()=STATE adds(0) adds(0) keep(0) now(4)=2 undo()=1 pot(0)=1 undo()=0 pot(0)=0"
            + " undo()=STATE back(0)=0 pot(0)=2");
    }

    // ---- promise 24

    /** "STATE: none was kept": of each image for itself; nothing has changed. */
    private static void noneWasKept() {
        Place.NEW.unchangedBy("back(0)=STATE back(1)=STATE");
        Place.EMPTY.unchangedBy("back(0)=STATE back(1)=STATE");
        new Place("b1 1 1 1 0 0;p2 2 2 2;", "adds(0) sends(0) sees(1) keep(1) adds(1)", "p").unchangedBy("back(0)=STATE");
        new Place("b1 1 1 1 0 0;p2 2 2 2;", "adds(0) sends(0) sees(1) keep(0) adds(1)", "p").unchangedBy("back(1)=STATE");
    }

    /** "the first of these: BAD .. STATE". */
    private static void badComesAheadOfState() {
        new Run().go("back(-1)=BAD back(2)=BAD back(MIN)=BAD back(MAX)=BAD back(0)=STATE back(1)=STATE");
    }

    /** "(nothing can be UNDONE behind back())", and what is done from there can. */
    private static void nothingCanBeUndoneBehindBack() {
        new Run().go("adds(0) adds(1) keep(0) adds(2) now(4)=3 back(0)=0 now(4)=0 undo()=STATE now(2)=2 adds(3) now(4)=1"
            + " undo()=0 undo()=STATE now(2)=2");
        new Run().go("keep(1) adds(0) adds(0) adds(0) adds(0) adds(0) adds(1) adds(1) adds(1) adds(1) adds(1) adds(2)"
            + " now(4)=10 back(1)=0 now(4)=0 undo()=STATE now(2)=0");
    }

    /** An IMAGE can be gone back to again and again: what is done behind it does not touch it. */
    private static void againAndAgain() {
        Run run = Run.told("b0 0 0 0 0 0;p1 1 1 1;").go("sends(0)=1 keep(0)=0");
        for (int n = 0; n < 5; n++) {
            run.go("waters()=0 sends(0)=0 colds(0, 1)=1 adds(3)=1 back(0)=0 now(2)=4 now(1)=0 brother(0, 8)=1");
        }
    }

    /** "IMAGES are gone" when all is read anew, not when it has a fault. */
    private static void imagesAreGone() {
        new Run().go("adds(0) keep(0) keep(1) kitchen()=0 back(0)=STATE back(1)=STATE keep(1)=0 back(0)=STATE back(1)=0");
        new Run().go("adds(0) keep(0) keep(1) type(98) kitchen()=-11 back(0)=0 back(1)=0 pot(0)=1");
    }

    // ---- promise 25

    /** "0 BROTHERS": none to six. */
    private static void howManyBrothers() {
        new Run().go("count(0)=0");
        for (int many = 0; many <= 6; many++) {
            Run.told("b0 0 0 0 0 0;".repeat(many)).go("count(0)=" + many);
        }
    }

    /** "1 SEEN": none to four. */
    private static void howMuchSeen() {
        new Run().go("count(1)=0 sees(0) count(1)=1 sees(0) sees(0) count(1)=3 sees(0) count(1)=4 sees(0)=FULL count(1)=4");
    }

    /** "2 letters of THE TEXT": none to 120. */
    private static void howManyLetters() {
        new Run().go("count(2)=0 type(0) count(2)=1 type(256)=BAD count(2)=1").typed("x".repeat(118)).go("count(2)=119"
            + " type(255) count(2)=120 type(255)=FULL count(2)=120 kitchen()=-10 count(2)=120 clear() count(2)=0");
    }

    /** "BAD": what is asked is 0 .. 2. */
    private static void nothingSuchToCount() {
        new Run().go("count(-1)=BAD count(0)=0 count(2)=0 count(3)=BAD");
        Place.unchangedEverywhere(Place.outside("count(#)", 0, 2, "BAD"));
        Place.unchangedEverywhere("count(0) count(1) count(2) trace()");
    }

    // ---- promise 26

    /** "THE TRACE goes on, as behind undo(), back()": nothing but rate() touches it. */
    private static void theTraceGoesOn() {
        Run.told("b0 0 0 0 0 0;").go("trace()=0 rate(5, 0) keep(0) adds(0) rate(4, 0) trace()=110102 undo()=0 trace()=110102"
            + " back(0)=1 trace()=110102 sees(0) forget() type(32) clear() trace()=110102 type(120) kitchen()=-10"
            + " trace()=110102 clear() kitchen()=0 trace()=110102 rate(0, 0)=NO trace()=110102");
    }

    /** "at most 512 calls": the last of them answers as the first, THE TRACE as great as it can be by then. */
    private static void theLastCall() {
        Run run = Run.told("b0 0 0 0 0 0;");
        for (int n = 0; n < 497; n++) {
            run.go("rate(5, 0)=0");
        }
        run.go("trace()=49700497");
        Run done = new Run();
        for (int n = 0; n < 255; n++) {
            done.go("adds(3)=1 waters()=0");
        }
        done.go("now(4)=10 undo()=9");
    }

    private static void rating() {
        noSuchKind();
        noSuchBrotherToRate();
        theLeastOfEachKind();
        theGreatestOfEachKind();
        ratesBelowNothing();
        theMindOfABrother();
        aCellarersPot();
        eachBodyOnce();
        refusedLeavesNoTrace();
        ratingChangesNothingElse();
    }

    private static void images() {
        noSuchImage();
        howManyAreCalm();
        theLatestIsKept();
        whatAnImageKeeps();
        whatAnImageDoesNotKeep();
        keepingCanNotBeUndone();
        noneWasKept();
        badComesAheadOfState();
        nothingCanBeUndoneBehindBack();
        againAndAgain();
        imagesAreGone();
    }

    private static void counts() {
        howManyBrothers();
        howMuchSeen();
        howManyLetters();
        nothingSuchToCount();
        theTraceGoesOn();
        theLastCall();
    }

    public static void main(String[] args) {
        rating();
        images();
        counts();
        Check.finish("KindsEdgesTest");
    }
}
