/** Promises 9 to 13: adds, waters, sends, colds, undo. */
public final class DoneTest {
    private static final int BAD = TastelessCook.BAD, STATE = TastelessCook.STATE, NONE = TastelessCook.NONE;
    private static final int[] FAR = {Integer.MIN_VALUE, -2, -1, 6, 1000000, Integer.MAX_VALUE};

    private static void adding() {
        TastelessCook cook = new TastelessCook();
        for (int part = 0; part < 4; part++) {
            for (int n = 1; n <= 5; n++) {
                Check.due("adds(" + part + ")", cook.adds(part), n);
            }
            Check.due("adds(" + part + ") to 5", cook.adds(part), STATE);
            Check.due("pot", cook.pot(part), 5);
            Check.due("in the pot", cook.now(2), 5 * part + 5);
        }
        Check.due("undoable: those refused are not", cook.now(4), 10);
        Check.due("adds(4)", cook.adds(4), BAD);
        for (int far : FAR) {
            Check.due("adds(" + far + ")", cook.adds(far), BAD);
        }
    }

    private static void watering() {
        TastelessCook cook = Check.told("p2 0 1 5;");
        int[] left = {5, 3, 2, 1, 0};
        for (int n = 0; n < left.length; n++) {
            Check.due("waters()", cook.waters(), left[n]);
            Check.due("sour", cook.pot(1), 0);
        }
        Check.due("waters() nothing", cook.waters(), STATE);
        Check.due("undoable", cook.now(4), 5);
        Check.due("undo", cook.undo(), 4);
        Check.due("in the pot", cook.now(2), 1);
    }

    private static void sending() {
        TastelessCook cook = Check.told("b1 0 0 0 0 0;b0 0 0 1 0 1;");
        Check.due("sends(0)", cook.sends(0), 2);
        Check.due("sends(1)", cook.sends(1), 8);
        cook.adds(0);
        Check.due("sends(0) calm", cook.sends(0), 0);
        Check.due("shown", cook.brother(0, 8), 0);
        Check.due("shown of the other", cook.brother(1, 8), 8);
        Check.due("undoable", cook.now(4), 4);
        Check.due("undo", cook.undo(), 3);
        Check.due("shown ahead of it", cook.brother(0, 8), 2);
        cook.undo();
        cook.undo();
        Check.due("nothing shown of the other", cook.brother(1, 8), NONE);
        Check.due("still shown", cook.brother(0, 8), 2);
        Check.due("undo the first", cook.undo(), 0);
        Check.due("nothing shown", cook.brother(0, 8), NONE);
        Check.due("sends(2)", cook.sends(2), BAD);
        for (int far : FAR) {
            Check.due("sends(" + far + ")", cook.sends(far), BAD);
        }
        Check.due("undoable: those refused are not", cook.now(4), 0);
    }

    private static void catchingColds() {
        TastelessCook cook = Check.told("b0 0 0 0 0 0;b0 0 0 0 0 1;b0 0 0 0 0 0;");
        Check.due("colds(0, 1)", cook.colds(0, 1), 2);
        Check.due("colds(2, 1)", cook.colds(2, 1), 3);
        Check.due("colds(1, 0)", cook.colds(1, 0), 2);
        Check.due("who", cook.now(1), 5);
        Check.due("it is so", cook.colds(0, 1), STATE);
        Check.due("it is not so any more", cook.colds(1, 0), STATE);
        Check.due("undoable", cook.now(4), 3);
        Check.due("undo", cook.undo(), 2);
        Check.due("who then", cook.now(1), 7);
        Check.due("colds(3, 1)", cook.colds(3, 1), BAD);
        Check.due("colds(0, 2)", cook.colds(0, 2), BAD);
        Check.due("colds(0, -1)", cook.colds(0, -1), BAD);
        for (int far : FAR) {
            Check.due("colds(" + far + ", 1)", cook.colds(far, 1), BAD);
            Check.due("colds(1, " + far + ")", cook.colds(1, far), BAD);
        }
    }

    private static void undoing() {
        TastelessCook cook = Check.told("b1 1 1 1 0 0;p3 3 0 0;");
        Check.due("undo nothing", cook.undo(), STATE);
        cook.sees(1);
        cook.waters();
        cook.adds(2);
        cook.colds(0, 1);
        cook.sends(0);
        cook.rate(0, 0);
        cook.sees(2);
        Check.due("undo", cook.undo(), 3);
        Check.due("shown", cook.brother(0, 8), NONE);
        Check.due("cold", cook.now(1), 1);
        Check.due("undo", cook.undo(), 2);
        Check.due("cold then", cook.now(1), 0);
        Check.due("undo", cook.undo(), 1);
        Check.due("sweet", cook.pot(2), 0);
        Check.due("undo", cook.undo(), 0);
        Check.due("salt", cook.pot(0), 3);
        Check.due("in the pot", cook.now(2), 6);
        Check.due("what was seen stays", cook.count(1), 2);
        Check.due("the trace goes on", cook.trace(), 1);
        Check.due("undo no more", cook.undo(), STATE);
    }

    private static void tenAreKnown() {
        TastelessCook cook = new TastelessCook();
        for (int n = 0; n < 13; n++) {
            cook.adds(n / 5);
            Check.due("undoable", cook.now(4), Math.min(10, n + 1));
        }
        for (int n = 9; n >= 0; n--) {
            Check.due("undo", cook.undo(), n);
            Check.due("undoable", cook.now(4), n);
            Check.due("in the pot", cook.now(2), n + 3);
        }
        Check.due("the oldest are lost", cook.undo(), STATE);
        Check.due("in the pot", cook.now(2), 3);
        Check.due("adds", cook.adds(0), 4);
        Check.due("undo", cook.undo(), 0);
        Check.due("salt", cook.pot(0), 3);
    }

    public static void main(String[] args) {
        adding();
        watering();
        sending();
        catchingColds();
        undoing();
        tenAreKnown();
        Check.finish("DoneTest");
    }
}
