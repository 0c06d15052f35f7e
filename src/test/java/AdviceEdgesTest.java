/** The edges of promises 14 to 17 (plan, middle, parted, odds), a sentence of the document a test. */
public final class AdviceEdgesTest {
    private static final String SIX = "b0 0 0 0 0 0;".repeat(6);

    /** The plan for a set as the text of its DEEDS. */
    private static void plans(Run run, int set, String deeds) {
        StringBuilder calls = new StringBuilder("plan(" + set + ", -1)=" + deeds.length());
        for (int k = 0; k < 5; k++) {
            String deed = k < deeds.length() ? deeds.substring(k, k + 1) : "NONE";
            calls.append(" plan(").append(set).append(", ").append(k).append(")=").append(deed);
        }
        run.go(calls.toString());
    }

    private static void plans(String text, String deeds) {
        plans(Run.told(text), 1, deeds);
    }

    private static void noPlan(Run run, int set) {
        String plan = "plan(" + set + ", ";
        run.go(plan + "-1)=NONE " + plan + "0)=NONE " + plan + "1)=NONE " + plan + "2)=NONE " + plan + "3)=NONE "
            + plan + "4)=NONE");
    }

    // ---- promise 14

    /** "(0 .. 5)": no DEED at all, if they are CALM as things are. */
    private static void noDeedAtAll() {
        plans("b3 3 3 3 0 0;p3 3 3 3;", "");
        plans("b3 3 3 3 2 0;p5 1 5 1;", "");
        plans("b5 5 5 5 0 0;p5 5 5 5;", "");
        plans("b0 0 0 0 0 0;", "");
    }

    /** A set of none is CALM, whoever there is. */
    private static void aSetOfNone() {
        plans(new Run(), 0, "");
        plans(Run.told("b5 5 5 5 0 0;"), 0, "");
        plans(Run.told(SIX + "p5 5 5 5;"), 0, "");
    }

    /** "the fewest DEEDS (0 .. 5)": five are enough. */
    private static void fiveDeeds() {
        plans("b5 0 0 0 0 0;", "00000");
        plans("b0 0 0 5 0 0;", "33333");
        plans("b2 1 1 1 0 0;", "00123");
        plans("b0 0 0 0 0 0;p5 5 5 5;", "44444");
    }

    /** "NONE (there are none such": six would be needed, or no pot will do. */
    private static void sixDeeds() {
        noPlan(Run.told("b5 1 0 0 0 0;"), 1);
        noPlan(Run.told("b2 2 1 1 0 0;"), 1);
        noPlan(Run.told("b5 5 5 5 2 0;"), 1);
        noPlan(Run.told("b0 0 0 5 2 1;p0 0 0 0;"), 1);
        noPlan(Run.told("b0 0 0 5 2 0;b0 0 0 1 1 0;"), 3);
        noPlan(Run.told("b0 0 0 0 0 0;b1 0 0 0 0 0;"), 3);
    }

    /** "not so many)": the last DEED, and the one behind it. */
    private static void theLastDeed() {
        Run.told("b1 2 0 0 0 0;").go("plan(1, -1)=3 plan(1, 2)=1 plan(1, 3)=NONE plan(1, 4)=NONE");
        Run.told("b5 0 0 0 0 0;").go("plan(1, -1)=5 plan(1, 4)=0");
        Run.told("b4 0 0 0 0 0;").go("plan(1, -1)=4 plan(1, 3)=0 plan(1, 4)=NONE");
        Run.told("b0 0 0 0 0 0;").go("plan(1, -1)=0 plan(1, 0)=NONE");
    }

    /** BLUNT ones are CALM as far as that: no DEED more than is needed. */
    private static void asFarAsBlunt() {
        plans("b5 0 0 0 2 0;", "000");
        plans("b5 0 0 0 1 0;", "0000");
        plans("b0 0 0 0 2 0;p5 5 5 5;", "444");
        plans("b5 5 0 0 2 0;p2 2 0 0;", "01");
    }

    /** "(that PART is ADDED, if there are not 5)". */
    private static void noneIsAddedToFive() {
        plans("b5 0 0 0 0 0;p5 1 0 0;", "40");
        plans("b5 5 5 5 0 0;p5 5 5 4;", "3");
        plans("b0 0 0 5 0 0;p1 0 0 5;", "43");
        plans("b5 4 4 4 0 0;p5 5 5 5;", "40");
    }

    /** "(WATERED)": "0 at least", so an empty PART stays as it is. */
    private static void waterWithEmptyParts() {
        plans("b1 0 0 0 0 0;p0 1 0 0;", "40");
        plans("b0 0 0 0 0 0;p0 0 0 1;", "4");
        plans("b1 0 0 0 0 0;p1 1 0 0;", "04");
    }

    /** "of several rows the first (by the first DEED, the lowest, then the second ..)". */
    private static void theFirstOfSeveralRows() {
        plans("b1 1 1 1 0 0;", "0123");
        plans("b1 0 0 2 0 0;", "033");
        plans("b0 2 1 0 0 0;", "112");
        plans("b2 2 0 0 0 0;p2 3 1 0;", "04");
        plans("b2 2 2 0 0 0;p2 3 1 0;", "0224");
        plans(Run.told("b1 0 0 0 0 0;b0 1 0 0 1 0;"), 3, "0");
    }

    /** "(COLD ..)": as things are NOW, PEPPER is halved for those who have one. */
    private static void planWithColds() {
        Run run = Run.told("b0 0 0 2 0 0;b0 0 0 2 0 1;");
        plans(run, 1, "33");
        plans(run, 2, "3333");
        noPlan(run, 3);
        run.go("colds(1, 0)=0");
        plans(run, 3, "33");
    }

    /** "all of the set are CALM": all six; one alone, whatever the others are. */
    private static void allOfTheSet() {
        plans(Run.told(SIX + "p1 0 0 0;"), 63, "4");
        plans(Run.told("b5 5 5 5 0 0;".repeat(5) + "b1 0 0 0 0 0;"), 32, "0");
        noPlan(Run.told("b5 5 5 5 0 0;".repeat(5) + "b1 0 0 0 0 0;"), 33);
    }

    /** "BAD (others than BROTHERS in the set": the last set, and one more, of none, one, six. */
    private static void othersInTheSet() {
        new Run().go("plan(0, -1)=0 plan(1, -1)=BAD plan(-1, -1)=BAD");
        Run.told("b0 0 0 0 0 0;").go("plan(1, -1)=0 plan(2, -1)=BAD plan(3, -1)=BAD plan(-2, -1)=BAD");
        Run.told(SIX).go("plan(63, -1)=0 plan(64, -1)=BAD plan(65, -1)=BAD plan(127, -1)=BAD plan(-64, -1)=BAD");
        Place.NEW.unchangedBy(Place.outside("plan(#, -1)", 0, 0, "BAD"));
        Place.BUSY.unchangedBy(Place.outside("plan(#, 0)", 0, 3, "BAD"));
        Place.EMPTY.unchangedBy(Place.outside("plan(#, 4)", 0, 63, "BAD"));
        Place.BRIM.unchangedBy(Place.outside("plan(#, -1)", 0, 63, "BAD"));
    }

    /** "k below -1, above 4)": whether there are so many DEEDS or not. */
    private static void noSuchK() {
        Run.told("b5 0 0 0 0 0;").go("plan(1, -2)=BAD plan(1, -1)=5 plan(1, 4)=0 plan(1, 5)=BAD plan(0, 5)=BAD");
        Place.unchangedEverywhere(Place.outside("plan(0, #)", -1, 4, "BAD"));
        Place.BUSY.unchangedBy("plan(4, 5)=BAD plan(-1, -2)=BAD plan(MIN, MIN)=BAD plan(MAX, MAX)=BAD");
    }

    /** "(As things are NOW; nothing is changed.)" */
    private static void askingChangesNothing() {
        Place.unchangedEverywhere("plan(0, -1) plan(1, -1) plan(1, 4) plan(3, 0) middle(0) middle(4) parted(0) parted(1)"
            + " odds(0, 0, 0) odds(10, 6, 1) odds(5, 3, 0) plan(63, 2)");
    }

    // ---- promise 15

    private static void middleIs(String text, int... want) {
        Run run = Run.told(text);
        for (int what = 0; what < 5; what++) {
            run.go("middle(" + what + ")=" + want[what]);
        }
    }

    /** "of all POTS": without BROTHERS the first of all, which none MINDS. */
    private static void theMiddleOfNone() {
        new Run().go("middle(0)=0 middle(1)=0 middle(2)=0 middle(3)=0 middle(4)=0");
        middleIs("p5 5 5 5;", 0, 0, 0, 0, 0);
    }

    /** The first POT of all, and the last. */
    private static void theFirstAndTheLastPot() {
        middleIs(SIX + "p5 5 5 5;", 0, 0, 0, 0, 0);
        middleIs("b5 5 5 5 0 0;".repeat(6), 5, 5, 5, 5, 0);
        middleIs("b5 5 5 5 2 0;b5 5 5 5 0 0;b0 0 0 0 0 0;", 5, 5, 5, 5, 20);
    }

    /** "of several the first (least SALT, then SOUR ..)". */
    private static void theFirstOfSeveralPots() {
        middleIs("b5 5 5 5 0 0;b0 0 0 0 0 0;", 0, 0, 0, 0, 20);
        middleIs("b5 1 4 2 0 0;b3 2 1 4 0 0;", 3, 1, 1, 2, 8);
        middleIs("b0 0 0 0 0 0;".repeat(3) + "b5 5 5 5 0 0;".repeat(3), 0, 0, 0, 0, 60);
    }

    /** "(COLD ones TASTE half the PEPPER)": 2 at most, and of two POTS that TASTE alike the first. */
    private static void theMiddleOfOneWithACold() {
        int[] pepper = {0, 2, 4, 4, 4, 4};
        int[] minds = {0, 0, 0, 1, 2, 3};
        for (int like = 0; like <= 5; like++) {
            middleIs("b5 0 3 " + like + " 0 1;", 5, 0, 3, pepper[like], minds[like]);
        }
    }

    /** Colds as they are NOW, not as at first. */
    private static void theMiddleNow() {
        Run.told("b0 0 0 2 0 0;").go("middle(3)=2 middle(4)=0 colds(0, 1)=1 middle(3)=4 middle(4)=0 undo()=0 middle(3)=2");
        Run.told("b0 0 0 5 0 1;").go("middle(3)=4 middle(4)=3 colds(0, 0)=0 middle(3)=5 middle(4)=0");
    }

    /** "BAD": what is asked is 0 .. 4. */
    private static void nothingSuchOfTheMiddle() {
        Run.told("b1 2 3 4 0 0;").go("middle(-1)=BAD middle(0)=1 middle(3)=4 middle(4)=0 middle(5)=BAD");
        Place.unchangedEverywhere(Place.outside("middle(#)", 0, 4, "BAD"));
    }

    // ---- promise 16

    private static void partedIs(String text, int first, int mind) {
        Run.told(text).go("parted(0)=" + first + " parted(1)=" + mind);
    }

    /** "all ways to part all BROTHERS": none, one. */
    private static void partingNoneAndOne() {
        new Run().go("parted(0)=0 parted(1)=0");
        partedIs("p5 5 5 5;", 0, 0);
        partedIs("b5 4 3 2 0 0;", 0, 0);
        partedIs("b0 0 0 5 0 1;", 0, 3);
    }

    /** "(one can be empty)": if that is no worse, the first is. */
    private static void oneCanBeEmpty() {
        partedIs("b1 2 3 4 0 0;b1 2 3 4 2 0;", 0, 0);
        partedIs(SIX, 0, 0);
        partedIs("b0 0 0 2 0 1;b0 0 0 4 0 0;", 0, 0);
        partedIs("b0 0 0 2 0 1;b0 0 0 5 0 0;", 0, 0);
        partedIs("b0 0 0 2 0 1;b0 0 0 3 0 0;", 1, 0);
    }

    /** "of several that whose first set, as bits, is the least number". */
    private static void theLeastFirstSet() {
        partedIs("b1 1 1 1 0 0;b2 1 1 1 0 0;", 1, 0);
        partedIs("b0 0 0 0 0 0;b1 0 0 0 0 0;b2 0 0 0 0 0;", 1, 1);
        partedIs("b0 0 0 0 0 0;b0 0 0 0 0 0;b5 0 0 0 0 0;", 3, 0);
        partedIs("b0 0 0 0 0 0;b5 5 5 5 0 0;b0 0 0 0 0 0;", 2, 0);
    }

    /** Six BROTHERS: the first against all others, the last against all others, three and three. */
    private static void partingSix() {
        partedIs("b5 5 5 5 0 0;" + "b0 0 0 0 0 0;".repeat(5), 1, 0);
        partedIs("b0 0 0 0 0 0;".repeat(5) + "b5 5 5 5 0 0;", 31, 0);
        partedIs("b0 0 0 0 0 0;".repeat(3) + "b5 5 5 5 0 0;".repeat(3), 7, 0);
        partedIs("b0 0 0 0 0 0;b5 5 5 5 0 0;".repeat(3), 21, 0);
        partedIs("b5 5 5 5 0 1;".repeat(6), 0, 18);
    }

    /** "BAD": what is asked is 0, 1. */
    private static void nothingSuchOfTheParted() {
        Run.told("b0 0 0 0 0 0;b5 0 0 0 0 0;").go("parted(-1)=BAD parted(0)=1 parted(1)=0 parted(2)=BAD");
        Place.unchangedEverywhere(Place.outside("parted(#)", 0, 1, "BAD"));
    }

    // ---- promise 17

    private static void oddsAre(Run run, int x, int k, int upper, int lower) {
        String odds = "odds(" + x + ", " + k + ", ";
        run.go(odds + "0)=" + upper + " " + odds + "1)=" + lower);
    }

    /** "that k at least are CALM": 0 at least always are, even of none. */
    private static void noneAtLeast() {
        for (int x = 0; x <= 10; x++) {
            oddsAre(new Run(), x, 0, 1, 1);
            oddsAre(Run.told("b5 5 5 5 0 0;"), x, 0, 1, 1);
            oddsAre(Run.told("b0 0 0 1 0 0;".repeat(6) + "p0 0 0 1;"), x, 0, 1, 1);
        }
    }

    /** More than there are never are. */
    private static void moreThanThereAre() {
        oddsAre(new Run(), 5, 1, 0, 1);
        oddsAre(new Run(), 5, 6, 0, 1);
        oddsAre(Run.told("b0 0 0 0 0 0;"), 5, 1, 1, 1);
        oddsAre(Run.told("b0 0 0 0 0 0;"), 5, 2, 0, 1);
        oddsAre(Run.told("b0 0 0 0 0 0;".repeat(5)), 3, 5, 1, 1);
        oddsAre(Run.told("b0 0 0 0 0 0;".repeat(5)), 3, 6, 0, 1);
        oddsAre(Run.told(SIX), 3, 6, 1, 1);
    }

    /** "by x of 10": at 0 none has a COLD, at 10 all have. */
    private static void noneHasOneAllHave() {
        Run without = Run.told("b0 0 0 2 0 1;".repeat(6) + "p0 0 0 2;");
        oddsAre(without, 0, 6, 1, 1);
        oddsAre(without, 10, 1, 0, 1);
        oddsAre(without, 10, 0, 1, 1);
        Run with = Run.told("b0 0 0 1 0 0;".repeat(6) + "p0 0 0 2;");
        oddsAre(with, 0, 1, 0, 1);
        oddsAre(with, 10, 6, 1, 1);
    }

    /** The smallest odds that there are, and those next to certain: a million below. */
    private static void aMillionBelow() {
        Run run = Run.told("b0 0 0 1 0 0;".repeat(6) + "p0 0 0 2;");
        oddsAre(run, 1, 6, 1, 1000000);
        oddsAre(run, 9, 1, 999999, 1000000);
        oddsAre(run, 1, 1, 468559, 1000000);
        oddsAre(run, 9, 6, 531441, 1000000);
        oddsAre(run, 3, 3, 25569, 100000);
    }

    /** "in least terms". */
    private static void inLeastTerms() {
        Run run = Run.told("b0 0 0 1 0 0;".repeat(6) + "p0 0 0 2;");
        oddsAre(run, 5, 6, 1, 64);
        oddsAre(run, 2, 6, 1, 15625);
        oddsAre(run, 5, 1, 63, 64);
        oddsAre(run, 5, 3, 21, 32);
        Run one = Run.told("b0 0 0 1 0 0;p0 0 0 2;");
        int[][] parts = {{0, 1}, {1, 10}, {1, 5}, {3, 10}, {2, 5}, {1, 2}, {3, 5}, {7, 10}, {4, 5}, {9, 10}, {1, 1}};
        for (int x = 0; x <= 10; x++) {
            oddsAre(one, x, 1, parts[x][0], parts[x][1]);
        }
    }

    /** "(whether he has one now or not)", and nothing has changed of that. */
    private static void whetherHeHasOneNowOrNot() {
        Run run = Run.told("b0 0 0 1 0 1;p0 0 0 2;");
        oddsAre(run, 3, 1, 3, 10);
        run.go("now(1)=1 colds(0, 0)=0");
        oddsAre(run, 3, 1, 3, 10);
        run.go("now(1)=0");
    }

    /** CALM as far as BLUNT, with a COLD or without. */
    private static void oddsOfBluntOnes() {
        oddsAre(Run.told("b0 0 0 0 1 0;p0 0 0 2;"), 3, 1, 3, 10);
        oddsAre(Run.told("b0 0 0 0 2 0;p0 0 0 2;"), 3, 1, 1, 1);
        oddsAre(Run.told("b0 0 0 0 0 0;p0 0 0 2;"), 3, 1, 0, 1);
        oddsAre(Run.told("b0 0 0 4 2 0;p0 0 0 5;"), 3, 1, 1, 1);
        oddsAre(Run.told("b0 0 0 5 2 0;p0 0 0 5;"), 3, 1, 7, 10);
    }

    /** "BAD": "x (0 .. 10), k (0 .. 6)", what is asked 0, 1. */
    private static void noSuchOdds() {
        Run.told("b0 0 0 0 0 0;").go("odds(-1, 0, 0)=BAD odds(0, 0, 0)=1 odds(10, 0, 0)=1 odds(11, 0, 0)=BAD"
            + " odds(0, -1, 0)=BAD odds(0, 6, 0)=0 odds(0, 7, 0)=BAD odds(0, 0, -1)=BAD odds(0, 0, 1)=1 odds(0, 0, 2)=BAD");
        Place.unchangedEverywhere(Place.outside("odds(#, 0, 0)", 0, 10, "BAD"));
        Place.unchangedEverywhere(Place.outside("odds(10, #, 1)", 0, 6, "BAD"));
        Place.unchangedEverywhere(Place.outside("odds(0, 6, #)", 0, 1, "BAD"));
        Place.BRIM.unchangedBy("odds(11, 7, 2)=BAD odds(-1, -1, -1)=BAD odds(MIN, MIN, MIN)=BAD odds(MAX, MAX, MAX)=BAD");
    }

    private static void plans() {
        noDeedAtAll();
        aSetOfNone();
        fiveDeeds();
        sixDeeds();
        theLastDeed();
        asFarAsBlunt();
        noneIsAddedToFive();
        waterWithEmptyParts();
        theFirstOfSeveralRows();
        planWithColds();
        allOfTheSet();
        othersInTheSet();
        noSuchK();
        askingChangesNothing();
    }

    private static void middlesAndPartings() {
        theMiddleOfNone();
        theFirstAndTheLastPot();
        theFirstOfSeveralPots();
        theMiddleOfOneWithACold();
        theMiddleNow();
        nothingSuchOfTheMiddle();
        partingNoneAndOne();
        oneCanBeEmpty();
        theLeastFirstSet();
        partingSix();
        nothingSuchOfTheParted();
    }

    private static void odds() {
        noneAtLeast();
        moreThanThereAre();
        noneHasOneAllHave();
        aMillionBelow();
        inLeastTerms();
        whetherHeHasOneNowOrNot();
        oddsOfBluntOnes();
        noSuchOdds();
    }

    public static void main(String[] args) {
        plans();
        middlesAndPartings();
        odds();
        Check.finish("AdviceEdgesTest");
    }
}
