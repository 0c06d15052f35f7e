/** Promises 22 to 26: rate, keep, back, count, trace. */
public final class KindsTest {
    private static final int BAD = TastelessCook.BAD, STATE = TastelessCook.STATE;
    private static final int NO = TastelessCook.NO, NONE = TastelessCook.NONE;
    private static final int[] FAR = {Integer.MIN_VALUE, -1000000, -1, 6, 1000000, Integer.MAX_VALUE};

    private static void rating() {
        // the second: mind 1 + 2 + 3 + 1 = 7, blunt 2, mien 6, number 1; 7 in the pot
        TastelessCook cook = Check.told("b0 0 0 0 0 0;b1 2 3 4 2 0;p2 0 0 5;");
        Check.due("trace at first", cook.trace(), 0);
        int[] rates = {7, 9, 1, 18, 2, 14};
        int[] traces = {1, 11, 101, 1011, 10101, 100001};
        long trace = 0;
        for (int n = 0; n < 3; n++) {
            for (int kind = 0; kind < 6; kind++) {
                Check.due("rate(" + kind + ", 1)", cook.rate(kind, 1), rates[kind]);
                trace += traces[kind];
                Check.due("trace", cook.trace(), trace);
            }
        }
        Check.due("rate(4, 0)", cook.rate(4, 0), 0);
        Check.due("rate(5, 0)", cook.rate(5, 0), 14);
        trace += 110102;
        for (int far : FAR) {
            Check.due("rate(" + far + ", 0)", cook.rate(far, 0), NO);
            Check.due("rate(0, " + far + ")", cook.rate(0, far), NO);
        }
        Check.due("rate(0, 2)", cook.rate(0, 2), NO);
        Check.due("rate(6, 0)", cook.rate(6, 0), NO);
        Check.due("what is refused leaves no trace", cook.trace(), trace);
    }

    private static void ratesBelowNothing() {
        TastelessCook cook = Check.told("b0 0 0 1 0 0;");
        Check.due("an abbot's", cook.rate(2, 0), 1 - 8);
        cook.colds(0, 1);
        cook.adds(3);
        Check.due("a cellarer's with a cold", cook.rate(5, 0), 2);
        cook.adds(3);
        Check.due("an abbot's who is calm", cook.rate(2, 0), 0);
        cook.undo();
        cook.keep(0);
        cook.back(0);
        Check.due("the trace goes on", cook.trace(), 100203);
    }

    private static void keeping() {
        TastelessCook cook = Check.told("b1 0 0 0 0 0;b1 0 0 1 0 1;b3 0 0 0 2 0;p1 0 0 2;");
        Check.due("back to none", cook.back(0), STATE);
        cook.adds(1);
        cook.undo();
        cook.waters();
        cook.undo();
        Check.due("keep(0)", cook.keep(0), 2);
        Check.due("back to the other", cook.back(1), STATE);
        cook.sends(1);
        cook.waters();
        cook.colds(1, 0);
        cook.sees(3);
        Check.due("undoable", cook.now(4), 3);
        Check.due("keep(1)", cook.keep(1), 0);
        Check.due("keeping undoes nothing", cook.now(4), 3);
        Check.due("shown", cook.brother(1, 8), 0);
        cook.type('x');
        Check.due("back(0)", cook.back(0), 2);
        Check.due("pot", cook.pot(3), 2);
        Check.due("salt", cook.pot(0), 1);
        Check.due("colds", cook.now(1), 2);
        Check.due("shown then", cook.brother(1, 8), NONE);
        Check.due("nothing can be undone", cook.now(4), 0);
        Check.due("undo", cook.undo(), STATE);
        Check.due("what was seen stays", cook.count(1), 1);
        Check.due("the text stays", cook.count(2), 1);
        Check.due("back(1)", cook.back(1), 0);
        Check.due("colds then", cook.now(1), 0);
        Check.due("pot then", cook.now(2), 1);
        Check.due("shown then", cook.brother(1, 8), 0);
    }

    private static void imagesStay() {
        TastelessCook cook = Check.told("b1 0 0 0 0 0;");
        cook.keep(0);
        cook.adds(0);
        Check.due("keep(1)", cook.keep(1), 1);
        cook.adds(0);
        for (int n = 0; n < 2; n++) {
            Check.due("back(0)", cook.back(0), 0);
            Check.due("salt", cook.pot(0), 0);
            cook.adds(0);
            cook.adds(0);
            Check.due("back(1)", cook.back(1), 1);
            Check.due("salt", cook.pot(0), 1);
            cook.adds(0);
        }
        Check.due("keep(0) anew", cook.keep(0), 0);
        cook.waters();
        Check.due("back(0)", cook.back(0), 0);
        Check.due("salt", cook.pot(0), 2);
        Check.due("keep(2)", cook.keep(2), BAD);
        Check.due("back(2)", cook.back(2), BAD);
        for (int far : FAR) {
            Check.due("keep(" + far + ")", cook.keep(far), BAD);
            Check.due("back(" + far + ")", cook.back(far), BAD);
        }
    }

    private static void counting() {
        TastelessCook cook = Check.told("b1 0 0 0 0 0;b1 0 0 0 0 0;");
        cook.sees(1);
        Check.types(cook, "  p");
        Check.due("brothers", cook.count(0), 2);
        Check.due("seen", cook.count(1), 1);
        Check.due("letters", cook.count(2), 3);
        Check.due("count(3)", cook.count(3), BAD);
        for (int far : FAR) {
            Check.due("count(" + far + ")", cook.count(far), BAD);
        }
    }

    public static void main(String[] args) {
        rating();
        ratesBelowNothing();
        keeping();
        imagesStay();
        counting();
        Check.finish("KindsTest");
    }
}
