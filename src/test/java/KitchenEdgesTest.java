/** The edges of promises 5 to 8 (pot, brother, off, now), a sentence of the document a test. */
public final class KitchenEdgesTest {
    private static final String SIX = "b0 0 0 0 0 0;".repeat(6);

    // ---- promise 5

    /** "How much there is of a PART": none, and as much as there may be. */
    private static void leastAndMostInThePot() {
        Run.told("p0 5 0 5;").go("pot(0)=0 pot(1)=5 pot(2)=0 pot(3)=5");
        Run.told("p5 0 5 0;").go("pot(0)=5 pot(1)=0 pot(2)=5 pot(3)=0");
    }

    /** "BAD": a PART is 0 .. 3. */
    private static void noSuchPartOfThePot() {
        Run.told("p1 2 3 4;").go("pot(-1)=BAD pot(0)=1 pot(3)=4 pot(4)=BAD pot(MIN)=BAD pot(MAX)=BAD");
        Place.unchangedEverywhere(Place.outside("pot(#)", 0, 3, "BAD"));
    }

    /** It is asked of, and nothing has changed. */
    private static void askingChangesNothing() {
        Place.unchangedEverywhere("pot(0) pot(3) brother(0, 0) brother(0, 6) brother(0, 7) brother(0, 8) off(0, 0)"
            + " off(0, 3) now(0) now(1) now(2) now(3) now(4)");
    }

    // ---- promise 6

    /** "BAD": the last BROTHER and the one behind him, of none, one, six. */
    private static void noSuchBrother() {
        new Run().go("brother(0, 0)=BAD brother(-1, 0)=BAD");
        Run.told("b1 0 0 0 0 0;").go("brother(-1, 0)=BAD brother(0, 0)=1 brother(1, 0)=BAD");
        Run.told(SIX).go("brother(5, 0)=0 brother(6, 0)=BAD brother(5, 8)=NONE brother(6, 8)=BAD");
        Place.NEW.unchangedBy(Place.outside("brother(#, 0)", 0, -1, "BAD"));
        Place.BUSY.unchangedBy(Place.outside("brother(#, 5)", 0, 1, "BAD"));
        Place.EMPTY.unchangedBy(Place.outside("brother(#, 6)", 0, 5, "BAD"));
        Place.BRIM.unchangedBy(Place.outside("brother(#, 8)", 0, 5, "BAD"));
    }

    /** BROTHERS of an earlier text are none. */
    private static void noBrotherOfAnEarlierText() {
        Run.told(SIX).typed("b1 1 1 1 1 1;").go("kitchen()=1 brother(0, 0)=1 brother(1, 0)=BAD brother(5, 0)=BAD");
    }

    /** "BAD": what is asked of him is 0 .. 8. */
    private static void nothingSuchOfABrother() {
        Run.told("b3 0 0 0 0 0;").go("brother(0, -1)=BAD brother(0, 0)=3 brother(0, 8)=NONE brother(0, 9)=BAD");
        Place.unchangedEverywhere(Place.outside("brother(0, #)", 0, 8, "BAD"));
        Place.BRIM.unchangedBy("brother(6, 9)=BAD brother(-1, -1)=BAD brother(MIN, MIN)=BAD brother(MAX, MAX)=BAD");
    }

    /** The least and the greatest of all that is told of one. */
    private static void leastAndGreatestTold() {
        Run.told("b0 0 0 0 0 0;b5 5 5 5 2 1;").go("brother(0, 0)=0 brother(0, 1)=0 brother(0, 2)=0 brother(0, 3)=0"
            + " brother(0, 4)=0 brother(0, 5)=0 brother(1, 0)=5 brother(1, 1)=5 brother(1, 2)=5 brother(1, 3)=5"
            + " brother(1, 4)=2 brother(1, 5)=1");
    }

    /** MIND: none, and the greatest: four OFFS of 5. */
    private static void leastAndGreatestMind() {
        Run.told("b3 3 3 3 2 0;p3 3 3 3;").go("brother(0, 7)=0");
        Run.told("b0 0 0 0 2 0;p5 5 5 5;").go("brother(0, 7)=20");
        Run.told("b5 5 5 5 0 1;").go("brother(0, 7)=20");
        Run.told("b5 0 5 0 0 0;p0 5 0 5;").go("brother(0, 7)=20 colds(0, 1)=1 brother(0, 7)=17");
    }

    /** BLUNT ones MIND as others do: all OFFS count. */
    private static void bluntOnesMind() {
        Run.told("b1 1 1 1 2 0;p3 0 2 1;").go("brother(0, 6)=0 brother(0, 7)=4");
    }

    /** "8 what was SHOWN of him (NONE)": nothing, CALM, and the last MIEN. */
    private static void nothingShown() {
        Run.told("b0 0 0 0 0 0;b0 0 0 5 0 0;").go("brother(0, 8)=NONE brother(1, 8)=NONE sends(0)=0 brother(0, 8)=0"
            + " brother(1, 8)=NONE sends(1)=8 brother(1, 8)=8 adds(0) brother(0, 6)=1 brother(0, 8)=0");
    }

    // ---- promise 7

    /** "OFF of a PART: what he TASTES of it less what he LIKES": from -5 to 5. */
    private static void leastAndGreatestOff() {
        Run.told("b5 5 5 5 0 0;b0 0 0 0 0 0;").go("off(0, 0)=-5 off(0, 1)=-5 off(0, 2)=-5 off(0, 3)=-5 off(1, 0)=0"
            + " off(1, 1)=0 off(1, 2)=0 off(1, 3)=0");
        Run.told("b5 5 5 5 0 0;b0 0 0 0 0 0;p5 5 5 5;").go("off(0, 0)=0 off(0, 1)=0 off(0, 2)=0 off(0, 3)=0 off(1, 0)=5"
            + " off(1, 1)=5 off(1, 2)=5 off(1, 3)=5");
    }

    /** "of PEPPER half (cut), if he has a COLD": of 0 to 5, and of nothing but PEPPER. */
    private static void halfThePepperCut() {
        int[] half = {0, 0, 1, 1, 2, 2};
        for (int amount = 0; amount <= 5; amount++) {
            Run.told("b0 0 0 0 0 1;b0 0 0 0 0 0;p" + (amount + " ").repeat(4) + ";").go("off(0, 3)=" + half[amount]
                + " off(1, 3)=" + amount + " off(0, 0)=" + amount + " off(0, 1)=" + amount + " off(0, 2)=" + amount
                + " brother(0, 7)=" + (3 * amount + half[amount]));
        }
    }

    /** What he LIKES is not halved; the cut is ahead of it. */
    private static void likesAreNotHalved() {
        Run.told("b0 0 0 5 0 1;p0 0 0 5;").go("off(0, 3)=-3 colds(0, 0)=0 off(0, 3)=0");
        Run.told("b0 0 0 5 0 1;p0 0 0 1;").go("off(0, 3)=-5 colds(0, 0)=0 off(0, 3)=-4");
        Run.told("b0 0 0 3 0 1;p0 0 0 3;").go("off(0, 3)=-2");
    }

    /** "NO: BAD": no such BROTHER, no such PART. */
    private static void noSuchOff() {
        new Run().go("off(0, 0)=NO off(0, 3)=NO");
        Run.told("b1 1 1 1 0 0;").go("off(-1, 0)=NO off(0, 0)=-1 off(1, 0)=NO off(0, -1)=NO off(0, 3)=-1 off(0, 4)=NO");
        Run.told(SIX).go("off(5, 3)=0 off(6, 3)=NO");
        Place.NEW.unchangedBy(Place.outside("off(#, 0)", 0, -1, "NO"));
        Place.BUSY.unchangedBy(Place.outside("off(#, 0)", 0, 1, "NO") + Place.outside("off(1, #)", 0, 3, "NO"));
        Place.BRIM.unchangedBy(Place.outside("off(#, 3)", 0, 5, "NO") + Place.outside("off(5, #)", 0, 3, "NO"));
        Place.EMPTY.unchangedBy("off(6, 4)=NO off(-1, -1)=NO off(MIN, MIN)=NO off(MAX, MAX)=NO");
    }

    /** An OFF of -1 is none that is BAD. */
    private static void anOffOfMinusOne() {
        Run.told("b1 0 0 0 0 0;").go("off(0, 0)=-1 off(0, 1)=0");
    }

    // ---- MIEN

    private static String text(int like, int blunt, int[] pot) {
        return "b" + (like + " ").repeat(4) + blunt + " 0;p" + pot[0] + " " + pot[1] + " " + pot[2] + " " + pot[3] + ";";
    }

    /** "0 (CALM), if no OFF is further from 0 than BLUNT": the last OFF that is borne, and the next, on both sides. */
    private static void asFarAsBlunt() {
        for (int part = 0; part < 4; part++) {
            for (int blunt = 0; blunt <= 2; blunt++) {
                for (int far = 0; far <= 3; far++) {
                    int[] much = {0, 0, 0, 0};
                    much[part] = far;
                    int[] little = {5, 5, 5, 5};
                    little[part] = 5 - far;
                    Run.told(text(0, blunt, much)).go("brother(0, 6)=" + (far <= blunt ? 0 : 1 + 2 * part)
                        + " now(0)=" + (far <= blunt ? 1 : 0));
                    Run.told(text(5, blunt, little)).go("brother(0, 6)=" + (far <= blunt ? 0 : 2 + 2 * part)
                        + " now(0)=" + (far <= blunt ? 1 : 0));
                }
            }
        }
    }

    /** All four as far as BLUNT is still CALM: OFFS are not added up. */
    private static void allAsFarAsBlunt() {
        Run.told("b2 2 2 2 2 0;p4 0 4 0;").go("brother(0, 6)=0 brother(0, 7)=8");
        Run.told("b2 2 2 2 1 0;p1 3 1 3;").go("brother(0, 6)=0 brother(0, 7)=4");
        Run.told("b2 2 2 2 2 0;p4 0 5 0;").go("brother(0, 6)=5");
    }

    /** "of several the lowest": two as far off, three, all four, too much or too little. */
    private static void ofSeveralTheLowest() {
        Run.told("b2 2 2 2 0 0;p3 3 3 3;").go("brother(0, 6)=1");
        Run.told("b2 2 2 2 0 0;p1 3 3 3;").go("brother(0, 6)=2");
        Run.told("b2 2 2 2 0 0;p2 3 1 3;").go("brother(0, 6)=3");
        Run.told("b2 2 2 2 0 0;p2 1 3 3;").go("brother(0, 6)=4");
        Run.told("b2 2 2 2 0 0;p2 2 3 1;").go("brother(0, 6)=5");
        Run.told("b2 2 2 2 0 0;p2 2 1 3;").go("brother(0, 6)=6");
        Run.told("b2 2 2 2 2 0;p2 5 2 5;").go("brother(0, 6)=3");
    }

    /** "furthest from 0": one further than the lowest counts, whichever way. */
    private static void theFurthestCounts() {
        Run.told("b2 2 2 2 0 0;p3 3 3 4;").go("brother(0, 6)=7");
        Run.told("b2 2 2 2 0 0;p3 3 3 0;").go("brother(0, 6)=8");
        Run.told("b2 2 2 2 0 0;p1 1 4 1;").go("brother(0, 6)=5");
        Run.told("b3 3 3 3 0 0;p5 0 5 5;").go("brother(0, 6)=4");
    }

    /** The MIEN of one with a COLD goes by half the PEPPER, cut. */
    private static void mienWithACold() {
        Run.told("b0 0 0 2 0 1;p0 0 0 5;").go("brother(0, 6)=0 colds(0, 0) brother(0, 6)=7");
        Run.told("b0 0 0 2 0 1;p0 0 0 4;").go("brother(0, 6)=0 waters() brother(0, 6)=8");
        Run.told("b0 0 0 0 0 1;p0 0 0 1;").go("brother(0, 6)=0 adds(3) brother(0, 6)=7");
    }

    // ---- promise 8

    /** "0 who is CALM (bits)": none, the first, the last, all six. */
    private static void whoIsCalm() {
        new Run().go("now(0)=0");
        Run.told(SIX).go("now(0)=63 adds(0) now(0)=0");
        Run.told("b0 0 0 0 0 0;" + "b5 5 5 5 0 0;".repeat(5)).go("now(0)=1");
        Run.told("b5 5 5 5 0 0;".repeat(5) + "b0 0 0 0 0 0;").go("now(0)=32");
    }

    /** "1 who has a COLD (bits)": none, the first, the last, all six. */
    private static void whoHasACold() {
        new Run().go("now(1)=0");
        Run.told(SIX).go("now(1)=0 colds(5, 1)=1 now(1)=32 colds(0, 1)=2 now(1)=33 colds(5, 0)=1 now(1)=1");
        Run.told("b0 0 0 0 0 1;".repeat(6)).go("now(1)=63");
    }

    /** "2 how much there is in THE POT": nothing, and 20. */
    private static void howMuchInThePot() {
        new Run().go("now(2)=0");
        Run.told("p5 5 5 5;").go("now(2)=20 adds(0)=STATE now(2)=20");
        Run.told("p0 0 0 1;").go("now(2)=1 waters()=0 now(2)=0");
    }

    /** "3 how much all MIND it": nothing without BROTHERS, and 6 times 20. */
    private static void howMuchAllMind() {
        Run.told("p5 5 5 5;").go("now(3)=0");
        Run.told(SIX).go("now(3)=0");
        Run.told(SIX + "p5 5 5 5;").go("now(3)=120 colds(0, 1) now(3)=117");
    }

    /** "4 how many may be UNDONE": none, and 10. */
    private static void howManyMayBeUndone() {
        new Run().go("now(4)=0 adds(0) now(4)=1 adds(0) adds(0) adds(0) adds(0) adds(1) adds(1) adds(1) now(4)=8 adds(1)"
            + " now(4)=9 adds(1) now(4)=10 adds(2) now(4)=10 undo()=9 now(4)=9");
    }

    /** "BAD": what is asked is 0 .. 4. */
    private static void nothingSuchNow() {
        new Run().go("now(-1)=BAD now(0)=0 now(4)=0 now(5)=BAD");
        Place.unchangedEverywhere(Place.outside("now(#)", 0, 4, "BAD"));
    }

    private static void brothers() {
        noSuchBrother();
        noBrotherOfAnEarlierText();
        nothingSuchOfABrother();
        leastAndGreatestTold();
        leastAndGreatestMind();
        bluntOnesMind();
        nothingShown();
    }

    private static void offs() {
        leastAndGreatestOff();
        halfThePepperCut();
        likesAreNotHalved();
        noSuchOff();
        anOffOfMinusOne();
    }

    private static void miens() {
        asFarAsBlunt();
        allAsFarAsBlunt();
        ofSeveralTheLowest();
        theFurthestCounts();
        mienWithACold();
    }

    private static void nows() {
        whoIsCalm();
        whoHasACold();
        howMuchInThePot();
        howMuchAllMind();
        howManyMayBeUndone();
        nothingSuchNow();
    }

    public static void main(String[] args) {
        leastAndMostInThePot();
        noSuchPartOfThePot();
        askingChangesNothing();
        brothers();
        offs();
        miens();
        nows();
        Check.finish("KitchenEdgesTest");
    }
}
