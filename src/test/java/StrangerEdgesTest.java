/** The edges of promises 18 to 21 (sees, forget, likings, ask), a sentence of the document a test. */
public final class StrangerEdgesTest {
    private static final int[] NOT_ONE = {-9, -9, -9, -9, -9, -9, -9, -9};

    private static void likesAre(Run run, int rows, int... leastAndGreatest) {
        for (int part = 0; part < 4; part++) {
            String likings = "likings(" + part + ", ";
            run.go(likings + "0)=" + rows + " " + likings + "1)=" + leastAndGreatest[2 * part] + " " + likings + "2)="
                + leastAndGreatest[2 * part + 1]);
        }
    }

    // ---- promise 18

    /** "BAD (0 .. 8)": the first MIEN and the last, and those next to them. */
    private static void noSuchMien() {
        new Run().go("sees(-1)=BAD sees(0)=1 sees(8)=2 sees(9)=BAD count(1)=2");
        Place.unchangedEverywhere(Place.outside("sees(#)", 0, 8, "BAD"));
    }

    /** "SEEN (4 at most)": the fourth, and one more. */
    private static void theFourthAndOneMore() {
        new Run().go("sees(2)=1 sees(2)=2 sees(2)=3 sees(2)=4 sees(2)=FULL count(1)=4 forget()=4");
    }

    /** "FULL": nothing has changed, none of the four is lost. */
    private static void aFifthIsNotSeen() {
        Place.BRIM.unchangedBy("sees(0)=FULL sees(1)=FULL sees(4)=FULL sees(8)=FULL");
        likesAre(Run.told("p1 2 3 4;").go("sees(0) sees(0) sees(0) sees(0) adds(0) sees(0)=FULL sees(2)=FULL"), 1,
            1, 1, 2, 2, 3, 3, 4, 4);
    }

    /** "the first of these: BAD .. FULL". */
    private static void badComesAheadOfFull() {
        Place.BRIM.unchangedBy("sees(-1)=BAD sees(9)=BAD sees(MIN)=BAD sees(MAX)=BAD sees(8)=FULL");
    }

    /** All four count, the first as the last. */
    private static void allFourCount() {
        Run run = Run.told("p1 0 0 0;").go("sees(2)=1 adds(0) sees(2)=2 adds(0) sees(2)=3 adds(0) sees(0)=4");
        likesAre(run, 1, 4, 4, 0, 0, 0, 0, 0, 0);
        Run last = Run.told("p4 0 0 0;").go("sees(0)=1 sees(0)=2 sees(0)=3 likings(0, 0)=1 adds(0) sees(0)=4");
        likesAre(last, 0, NOT_ONE);
        Run first = Run.told("p4 0 0 0;").go("sees(1)=1 adds(0) sees(1)=2 sees(1)=3 waters() sees(0)=4");
        likesAre(first, 0, NOT_ONE);
    }

    /** "with THE POT as it is NOW (kept so)": what is done later does not matter. */
    private static void thePotIsKept() {
        Run run = Run.told("p1 2 3 4;").go("sees(0) adds(0) adds(0) waters()");
        likesAre(run, 1, 1, 1, 2, 2, 3, 3, 4, 4);
        run.go("undo() undo() undo()");
        likesAre(run, 1, 1, 1, 2, 2, 3, 3, 4, 4);
        Run undone = Run.told("p1 2 3 4;").go("adds(0) sees(0) undo()=0 pot(0)=1");
        likesAre(undone, 1, 2, 2, 2, 2, 3, 3, 4, 4);
        Run back = Run.told("p1 2 3 4;").go("keep(0) waters() sees(0) back(0) pot(0)=1 count(1)=1");
        likesAre(back, 1, 0, 0, 1, 1, 2, 2, 3, 3);
    }

    /** "a stranger (BLUNT 0, no COLD)": CALM with one POT alone, all its PEPPER TASTED, whatever BROTHERS are. */
    private static void neitherBluntNorCold() {
        likesAre(Run.told("b5 5 5 5 2 1;p0 0 0 5;").go("sees(0)"), 1, 0, 0, 0, 0, 0, 0, 5, 5);
        likesAre(Run.told("b0 0 0 0 2 1;p0 0 0 1;").go("sees(7)"), 1, 0, 0, 0, 0, 0, 0, 0, 0);
    }

    /** Seeing is none of the things that can be UNDONE, and changes nothing else. */
    private static void seeingCanNotBeUndone() {
        Run.told("b1 1 1 1 0 0;p1 0 0 0;").go("sees(1)=1 now(4)=0 undo()=STATE adds(0)=2 sees(2)=2 now(4)=1 undo()=0"
            + " count(1)=2 brother(0, 8)=NONE pot(0)=1 trace()=0");
    }

    // ---- promise 19

    /** "Nothing is SEEN: how much was": none, one, four. */
    private static void forgetting() {
        new Run().go("forget()=0 forget()=0 sees(8)=1 forget()=1 forget()=0 count(1)=0 sees(2)=1 sees(2)=2 sees(2)=3"
            + " sees(2)=4 sees(2)=FULL forget()=4 count(1)=0 likings(0, 0)=1296 sees(2)=1 count(1)=1");
        Place.NEW.unchangedBy("forget()=0");
        Place.EMPTY.unchangedBy("forget()=0 forget()=0");
    }

    /** What was forgotten counts no more, even when more is SEEN. */
    private static void forgottenOnesDoNotCount() {
        Run run = Run.told("p1 2 3 4;").go("sees(1) sees(2) sees(3) sees(4) forget()=4 sees(0)=1");
        likesAre(run, 1, 1, 1, 2, 2, 3, 3, 4, 4);
    }

    /** Nothing but what was SEEN is forgotten; it can't be UNDONE. */
    private static void forgettingChangesNothingElse() {
        Run.told("b1 1 1 1 0 1;p2 0 0 0;").go("sends(0)=1 sees(1) keep(0) type(32) rate(0, 0) forget()=1 now(4)=1"
            + " brother(0, 8)=1 count(2)=1 trace()=1 undo()=0 count(1)=0 back(0)=0 brother(0, 8)=1 count(1)=0");
    }

    // ---- promise 20

    /** "rows of four LIKES (0 .. 5)": all of them, if nothing is SEEN, whatever is in THE POT. */
    private static void allRows() {
        likesAre(new Run(), 1296, 0, 5, 0, 5, 0, 5, 0, 5);
        likesAre(Run.told("b1 1 1 1 0 0;p5 5 5 5;"), 1296, 0, 5, 0, 5, 0, 5, 0, 5);
    }

    /** One row: the least is the greatest, at both ends. */
    private static void oneRow() {
        likesAre(new Run().go("sees(0)"), 1, 0, 0, 0, 0, 0, 0, 0, 0);
        likesAre(Run.told("p5 5 5 5;").go("sees(0)"), 1, 5, 5, 5, 5, 5, 5, 5, 5);
        likesAre(Run.told("p1 2 3 4;").go("sees(0)=1 sees(0)=2 sees(0)=3 sees(0)=4"), 1, 1, 1, 2, 2, 3, 3, 4, 4);
    }

    /** "NONE (what 1, 2)": no row is left; how many is 0 then. */
    private static void noRow() {
        for (int part = 0; part < 4; part++) {
            likesAre(new Run().go("sees(" + (1 + 2 * part) + ")"), 0, NOT_ONE);
            likesAre(Run.told("p5 5 5 5;").go("sees(" + (2 + 2 * part) + ")"), 0, NOT_ONE);
        }
        likesAre(Run.told("p1 2 3 4;").go("sees(0) sees(1)"), 0, NOT_ONE);
        likesAre(Run.told("p1 2 3 4;").go("sees(0) adds(0) sees(0)"), 0, NOT_ONE);
        likesAre(new Run().go("sees(1) forget()"), 1296, 0, 5, 0, 5, 0, 5, 0, 5);
    }

    /** By one MIEN alone with an empty POT: the furthest PART, of several the lowest. */
    private static void byOneMien() {
        likesAre(new Run().go("sees(2)"), 8 + 27 + 64 + 125 + 216, 1, 5, 0, 5, 0, 5, 0, 5);
        likesAre(new Run().go("sees(4)"), 4 + 18 + 48 + 100 + 180, 0, 4, 1, 5, 0, 5, 0, 5);
        likesAre(new Run().go("sees(6)"), 2 + 12 + 36 + 80 + 150, 0, 4, 0, 4, 1, 5, 0, 5);
        likesAre(new Run().go("sees(8)"), 1 + 8 + 27 + 64 + 125, 0, 4, 0, 4, 0, 4, 1, 5);
    }

    /** "(what = 0; the PART does not matter, but is one)". */
    private static void thePartIsOne() {
        Run.told("p1 1 1 1;").go("sees(1) likings(-1, 0)=BAD likings(4, 0)=BAD likings(MIN, 0)=BAD likings(MAX, 0)=BAD");
        Place.unchangedEverywhere(Place.outside("likings(#, 0)", 0, 3, "BAD"));
        Place.unchangedEverywhere(Place.outside("likings(#, 2)", 0, 3, "BAD"));
    }

    /** "BAD": what is asked is 0 .. 2; ahead of NONE. */
    private static void nothingSuchOfLikings() {
        new Run().go("likings(0, -1)=BAD likings(0, 0)=1296 likings(3, 2)=5 likings(0, 3)=BAD");
        new Run().go("sees(1) likings(0, -1)=BAD likings(0, 3)=BAD likings(4, 1)=BAD likings(-1, 2)=BAD");
        Place.unchangedEverywhere(Place.outside("likings(3, #)", 0, 2, "BAD"));
        Place.BRIM.unchangedBy("likings(4, 3)=BAD likings(-1, -1)=BAD likings(MIN, MIN)=BAD likings(MAX, MAX)=BAD");
    }

    /** "(As things are NOW; nothing is changed.)" */
    private static void askingChangesNothing() {
        Place.unchangedEverywhere("likings(0, 0) likings(3, 1) likings(3, 2) ask() ask() likings(2, 1)");
    }

    // ---- promise 21

    /** "NONE (one row at most)": none, one; with two it is answered. */
    private static void oneRowAtMost() {
        new Run().go("sees(1) likings(0, 0)=0 ask()=NONE");
        new Run().go("sees(0) likings(0, 0)=1 ask()=NONE");
        Run.told("p5 5 5 5;").go("sees(0) likings(0, 0)=1 ask()=NONE");
        Run.told("p2 3 1 4;").go("sees(0) likings(0, 0)=1 ask()=NONE forget()=1 ask()=2");
        // 0 1 0 0 and 0 1 1 0 are left: with sour as they like it they show pepper, sweet
        Run.told("p0 0 0 2;").go("sees(7) waters() sees(4) likings(0, 0)=2 ask()=1");
    }

    /** "(or 5: nothing)": it is the best, and every DEED can be done. */
    private static void nothingIsBest() {
        Run.told("p0 5 2 0;").go("sees(5) likings(0, 0)=14 waters()=5 ask()=5");
        Run.told("p0 2 5 0;").go("sees(3) likings(0, 0)=22 waters()=5 ask()=5");
    }

    /** "(one that can't be done counts as nothing done)", "of several the lowest": a PART of which there are 5. */
    private static void addedToFiveIsNothing() {
        Run.told("p5 5 4 1;").go("sees(6) likings(0, 0)=3 adds(2)=5 ask()=0");
        Run.told("p0 5 4 5;").go("sees(6) likings(0, 0)=2 adds(2)=5 ask()=1");
        Run.told("p0 0 4 5;").go("sees(6) likings(0, 0)=2 adds(2)=5 ask()=2");
        Run.told("p0 0 1 3;").go("sees(8) likings(0, 0)=13 adds(0) adds(1) adds(2) adds(3) adds(3)=5 ask()=3");
    }

    /** "(one that can't be done counts as nothing done)": water in an empty POT. */
    private static void waterToNothingIsNothing() {
        Run.told("p0 0 1 3;").go("sees(7) likings(0, 0)=49 waters() waters() waters()=0 ask()=4");
    }

    /** A POT that is full: all PARTS count as nothing done, and water is better, or not. */
    private static void askWithAFullPot() {
        Run.told("p5 5 5 5;").go("ask()=4");
        Run.told("p4 5 5 5;").go("sees(2) likings(0, 0)=8 adds(0)=5 ask()=0");
    }

    /** "of several the lowest": all DEEDS tell as much. */
    private static void allTellAsMuch() {
        Run.told("p0 0 0 2;").go("sees(7) likings(0, 0)=9 adds(3)=3 ask()=0");
    }

    /** THE POT as it is NOW counts, not the one with which he was SEEN. */
    private static void askNow() {
        Run.told("p0 0 0 2;").go("sees(7) waters()=1 ask()=1 undo() adds(0)=1 ask()=4 undo() adds(3)=3 ask()=0");
    }

    private static void seeing() {
        noSuchMien();
        theFourthAndOneMore();
        aFifthIsNotSeen();
        badComesAheadOfFull();
        allFourCount();
        thePotIsKept();
        neitherBluntNorCold();
        seeingCanNotBeUndone();
        forgetting();
        forgottenOnesDoNotCount();
        forgettingChangesNothingElse();
    }

    private static void likings() {
        allRows();
        oneRow();
        noRow();
        byOneMien();
        thePartIsOne();
        nothingSuchOfLikings();
        askingChangesNothing();
    }

    private static void asking() {
        oneRowAtMost();
        nothingIsBest();
        addedToFiveIsNothing();
        waterToNothingIsNothing();
        askWithAFullPot();
        allTellAsMuch();
        askNow();
    }

    public static void main(String[] args) {
        seeing();
        likings();
        asking();
        Check.finish("StrangerEdgesTest");
    }
}
