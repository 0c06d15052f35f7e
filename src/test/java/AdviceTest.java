/** Promises 14 to 17: plan, middle, parted, odds. */
public final class AdviceTest {
    private static final int BAD = TastelessCook.BAD, NONE = TastelessCook.NONE;
    private static final int[] FAR = {Integer.MIN_VALUE, -1000000, -2, 11, 1000000, Integer.MAX_VALUE};

    /** The plan as the text of its deeds; "none", if there is none. */
    private static void plans(TastelessCook cook, int set, String want) {
        boolean none = want.equals("none");
        Check.due("plan(" + set + ", -1)", cook.plan(set, -1), none ? NONE : want.length());
        for (int k = 0; k < 5; k++) {
            int deed = none || k >= want.length() ? NONE : want.charAt(k) - '0';
            Check.due("plan(" + set + ", " + k + ")", cook.plan(set, k), deed);
        }
    }

    private static void planning() {
        plans(new TastelessCook(), 0, "");
        plans(Check.told("b1 2 0 0 0 0;"), 1, "011");
        plans(Check.told("b1 1 1 1 0 0;"), 1, "0123");
        plans(Check.told("b5 0 0 0 0 0;"), 1, "00000");
        plans(Check.told("b5 1 0 0 0 0;"), 1, "none");
        plans(Check.told("b5 1 0 0 1 0;"), 1, "0000");
        plans(Check.told("b5 5 0 0 2 0;"), 1, "none");
        plans(Check.told("b0 0 0 0 0 0;p5 5 5 5;"), 1, "44444");
        plans(Check.told("b2 2 2 2 2 0;p5 5 5 5;"), 1, "4");
        // water below 0 stops at 0, so it can come ahead of what is added
        plans(Check.told("b1 0 0 0 0 0;p1 1 0 0;"), 1, "04");
        plans(Check.told("b1 0 0 0 0 0;p0 1 0 0;"), 1, "40");
        plans(Check.told("b5 4 4 4 0 0;p5 5 5 5;"), 1, "40");
        plans(Check.told("b0 0 0 0 0 0;p0 0 0 1;"), 1, "4");
        // one with a cold takes twice the pepper
        plans(Check.told("b0 0 0 1 0 0;b0 0 0 1 0 1;"), 1, "3");
        plans(Check.told("b0 0 0 1 0 0;b0 0 0 1 0 1;"), 2, "33");
        plans(Check.told("b0 0 0 1 0 0;b0 0 0 1 0 1;"), 3, "none");
        plans(Check.told("b0 0 0 2 1 0;b0 0 0 1 0 1;"), 3, "33");
    }

    private static void planChangesNothing() {
        TastelessCook cook = Check.told("b1 2 0 0 0 0;b0 0 0 3 0 0;");
        plans(cook, 0, "");
        plans(cook, 2, "333");
        plans(cook, 1, "011");
        plans(cook, 3, "none");
        plans(cook, 2, "333");
        Check.due("in the pot", cook.now(2), 0);
        Check.due("undoable", cook.now(4), 0);
        cook.adds(3);
        plans(cook, 2, "33");
        Check.due("plan(4, -1)", cook.plan(4, -1), BAD);
        Check.due("plan(5, 0)", cook.plan(5, 0), BAD);
        Check.due("plan(-1, -1)", cook.plan(-1, -1), BAD);
        Check.due("plan(0, 5)", cook.plan(0, 5), BAD);
        for (int far : FAR) {
            Check.due("plan(" + far + ", 0)", cook.plan(far, 0), BAD);
            Check.due("plan(1, " + far + ")", cook.plan(1, far), BAD);
        }
        Check.due("no brothers: plan(1, -1)", new TastelessCook().plan(1, -1), BAD);
        Check.due("no brothers: plan(64, -1)", new TastelessCook().plan(64, -1), BAD);
    }

    private static void middleIs(String text, int... want) {
        TastelessCook cook = Check.told(text);
        for (int what = 0; what < 5; what++) {
            Check.due("middle(" + what + ") of " + text, cook.middle(what), want[what]);
        }
    }

    private static void middles() {
        middleIs("", 0, 0, 0, 0, 0);
        middleIs("p5 5 5 5;", 0, 0, 0, 0, 0);
        middleIs("b1 2 3 4 0 0;p5 5 5 5;", 1, 2, 3, 4, 0);
        middleIs("b1 2 3 4 2 0;b2 2 5 0 0 0;", 1, 2, 3, 0, 7);
        middleIs("b1 2 3 4 2 0;b2 2 5 0 0 0;b2 3 4 1 0 0;", 2, 2, 4, 1, 8);
        // with a cold: 4 is tasted as 2, 5 too; 5 at most is liked, 2 at most tasted
        middleIs("b0 0 0 2 0 1;", 0, 0, 0, 4, 0);
        middleIs("b0 0 0 5 0 1;", 0, 0, 0, 4, 3);
        middleIs("b0 0 0 2 0 1;b0 0 0 2 0 0;", 0, 0, 0, 2, 1);
        TastelessCook cook = Check.told("b0 0 0 2 0 0;");
        Check.due("pepper", cook.middle(3), 2);
        cook.colds(0, 1);
        Check.due("pepper with a cold", cook.middle(3), 4);
        Check.due("middle(5)", cook.middle(5), BAD);
        Check.due("middle(-1)", cook.middle(-1), BAD);
        for (int far : FAR) {
            Check.due("middle(" + far + ")", cook.middle(far), BAD);
        }
    }

    private static void partedIs(String text, int first, int mind) {
        TastelessCook cook = Check.told(text);
        Check.due("parted(0) of " + text, cook.parted(0), first);
        Check.due("parted(1) of " + text, cook.parted(1), mind);
        Check.due("in the pot", cook.now(4), 0);
    }

    private static void partings() {
        partedIs("", 0, 0);
        partedIs("b1 2 3 4 0 0;", 0, 0);
        partedIs("b1 1 1 1 0 0;b1 1 1 1 2 0;", 0, 0);
        partedIs("b1 1 1 1 0 0;b2 1 1 1 2 0;", 1, 0);
        partedIs("b1 1 1 1 0 0;b5 5 5 5 0 0;b1 1 1 1 0 0;", 2, 0);
        partedIs("b1 1 1 1 0 0;b5 5 5 5 0 0;b5 5 5 4 0 0;", 1, 1);
        partedIs("b0 0 0 0 0 0;b1 0 0 0 0 0;b2 0 0 0 0 0;", 1, 1);
        partedIs("b0 0 0 0 0 0;b0 0 0 1 0 1;b0 0 0 5 0 0;", 1, 1);
        partedIs("b0 0 0 2 0 1;b0 0 0 5 0 0;", 0, 0);
        partedIs("b0 0 0 0 0 0;b5 0 0 0 0 0;b0 5 0 0 0 0;b0 0 5 0 0 0;b0 0 0 5 0 0;b5 5 5 5 0 0;", 31, 20);
        TastelessCook cook = Check.told("b0 0 0 0 0 0;");
        Check.due("parted(2)", cook.parted(2), BAD);
        Check.due("parted(-1)", cook.parted(-1), BAD);
        for (int far : FAR) {
            Check.due("parted(" + far + ")", cook.parted(far), BAD);
        }
    }

    private static void oddsAre(TastelessCook cook, int x, int k, int upper, int lower) {
        String call = "odds(" + x + ", " + k + ", ";
        Check.due(call + "0)", cook.odds(x, k, 0), upper);
        Check.due(call + "1)", cook.odds(x, k, 1), lower);
    }

    private static void oddsOfOne() {
        // calm without a cold alone, whether he has one now or not
        for (int cold = 0; cold < 2; cold++) {
            TastelessCook cook = Check.told("b0 0 0 2 0 " + cold + ";p0 0 0 2;");
            oddsAre(cook, 0, 1, 1, 1);
            oddsAre(cook, 3, 1, 7, 10);
            oddsAre(cook, 5, 1, 1, 2);
            oddsAre(cook, 8, 1, 1, 5);
            oddsAre(cook, 10, 1, 0, 1);
            oddsAre(cook, 3, 0, 1, 1);
            oddsAre(cook, 3, 2, 0, 1);
        }
        TastelessCook cook = Check.told("b0 0 0 1 0 0;p0 0 0 2;");
        oddsAre(cook, 3, 1, 3, 10);
        cook.adds(0);
        oddsAre(cook, 3, 1, 0, 1);
    }

    private static void oddsOfMore() {
        TastelessCook two = Check.told("b0 0 0 2 0 0;b0 0 0 1 0 0;p0 0 0 2;");
        oddsAre(two, 3, 1, 7 * 3 + 7 * 7 + 3 * 3, 100);
        oddsAre(two, 3, 2, 21, 100);
        oddsAre(two, 5, 1, 3, 4);
        oddsAre(two, 10, 1, 1, 1);
        oddsAre(two, 10, 2, 0, 1);
        TastelessCook six = Check.told("b0 0 0 2 0 0;".repeat(6) + "p0 0 0 2;");
        oddsAre(six, 3, 6, 117649, 1000000);
        oddsAre(six, 3, 1, 999271, 1000000);
        oddsAre(six, 5, 3, 21, 32);
        oddsAre(six, 5, 6, 1, 64);
        oddsAre(six, 8, 5, 1, 625);
        TastelessCook none = new TastelessCook();
        oddsAre(none, 5, 0, 1, 1);
        oddsAre(none, 5, 6, 0, 1);
    }

    private static void oddsRefused() {
        TastelessCook cook = Check.told("b0 0 0 2 0 0;");
        int[][] calls = {{-1, 0, 0}, {11, 0, 0}, {0, -1, 0}, {0, 7, 0}, {0, 0, -1}, {0, 0, 2}};
        for (int[] call : calls) {
            Check.due("odds refused", cook.odds(call[0], call[1], call[2]), BAD);
        }
        for (int far : FAR) {
            Check.due("odds(" + far + ", 0, 0)", cook.odds(far, 0, 0), BAD);
            Check.due("odds(0, " + far + ", 0)", cook.odds(0, far, 0), BAD);
            Check.due("odds(0, 0, " + far + ")", cook.odds(0, 0, far), BAD);
        }
    }

    public static void main(String[] args) {
        planning();
        planChangesNothing();
        middles();
        partings();
        oddsOfOne();
        oddsOfMore();
        oddsRefused();
        Check.finish("AdviceTest");
    }
}
