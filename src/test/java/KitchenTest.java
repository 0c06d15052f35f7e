/** Promises 5 to 8: pot, brother, off, now. */
public final class KitchenTest {
    private static final int BAD = TastelessCook.BAD, NO = TastelessCook.NO;
    private static final int[] FAR = {Integer.MIN_VALUE, -1000000, -2, -1, 1000000, Integer.MAX_VALUE};

    private static void pots() {
        TastelessCook cook = Check.told("p1 5 0 3;");
        int[] want = {1, 5, 0, 3};
        for (int part = 0; part < 4; part++) {
            Check.due("pot(" + part + ")", cook.pot(part), want[part]);
        }
        Check.due("pot(4)", cook.pot(4), BAD);
        for (int far : FAR) {
            Check.due("pot(" + far + ")", cook.pot(far), BAD);
        }
    }

    private static void mien(String text, int want) {
        Check.due("mien of " + text, Check.told(text).brother(0, 6), want);
    }

    private static void miens() {
        mien("b2 2 2 2 0 0;p2 2 2 2;", 0);
        mien("b2 2 2 2 0 0;p3 2 2 2;", 1);
        mien("b2 2 2 2 0 0;p1 2 2 2;", 2);
        mien("b2 2 2 2 0 0;p2 3 2 2;", 3);
        mien("b2 2 2 2 0 0;p2 1 2 2;", 4);
        mien("b2 2 2 2 0 0;p2 2 3 2;", 5);
        mien("b2 2 2 2 0 0;p2 2 1 2;", 6);
        mien("b2 2 2 2 0 0;p2 2 2 3;", 7);
        mien("b2 2 2 2 0 0;p2 2 2 1;", 8);
        // the furthest counts, of several the lowest
        mien("b2 2 2 2 0 0;p3 4 2 2;", 3);
        mien("b2 2 2 2 0 0;p3 2 4 0;", 5);
        mien("b2 2 2 2 0 0;p3 2 0 4;", 6);
        mien("b2 2 2 2 0 0;p2 1 3 3;", 4);
        // blunt ones are calm as far as that
        mien("b2 2 2 2 1 0;p3 1 3 1;", 0);
        mien("b2 2 2 2 1 0;p3 1 3 4;", 7);
        mien("b2 2 2 2 2 0;p4 0 4 0;", 0);
        mien("b2 2 2 2 2 0;p4 0 5 0;", 5);
        mien("b3 2 2 2 2 0;p0 0 4 0;", 2);
        // a cold halves the pepper, cut, and nothing else
        mien("b2 2 2 2 0 1;p2 2 2 4;", 0);
        mien("b2 2 2 2 0 1;p2 2 2 5;", 0);
        mien("b2 2 2 2 0 1;p2 2 2 3;", 8);
        mien("b2 2 2 0 0 1;p2 2 2 1;", 0);
        mien("b2 2 2 0 0 1;p4 2 2 0;", 1);
        mien("b2 2 2 0 0 1;p2 4 4 0;", 3);
    }

    private static void brothers() {
        TastelessCook cook = Check.told("b1 2 3 4 2 1;b5 4 3 2 0 0;p5 0 3 5;");
        int[][] want = {{1, 2, 3, 4, 2, 1, 1, 8, -9}, {5, 4, 3, 2, 0, 0, 4, 7, -9}};
        for (int b = 0; b < 2; b++) {
            for (int what = 0; what <= 8; what++) {
                Check.due("brother(" + b + ", " + what + ")", cook.brother(b, what), want[b][what]);
            }
        }
        cook.sends(1);
        Check.due("shown of the other", cook.brother(0, 8), TastelessCook.NONE);
        Check.due("shown", cook.brother(1, 8), 4);
        cook.adds(1);
        Check.due("shown stays", cook.brother(1, 8), 4);
        Check.due("brother(2, 0)", cook.brother(2, 0), BAD);
        Check.due("brother(0, 9)", cook.brother(0, 9), BAD);
        for (int far : FAR) {
            Check.due("brother(" + far + ", 0)", cook.brother(far, 0), BAD);
            Check.due("brother(0, " + far + ")", cook.brother(0, far), BAD);
        }
    }

    private static void offs() {
        TastelessCook cook = Check.told("b1 2 3 4 2 1;b5 4 3 2 0 0;p5 0 3 5;");
        int[][] want = {{4, -2, 0, -2}, {0, -4, 0, 3}};
        for (int b = 0; b < 2; b++) {
            for (int part = 0; part < 4; part++) {
                Check.due("off(" + b + ", " + part + ")", cook.off(b, part), want[b][part]);
            }
        }
        cook.colds(0, 0);
        Check.due("off without a cold", cook.off(0, 3), 1);
        Check.due("off(2, 0)", cook.off(2, 0), NO);
        Check.due("off(0, 4)", cook.off(0, 4), NO);
        for (int far : FAR) {
            Check.due("off(" + far + ", 0)", cook.off(far, 0), NO);
            Check.due("off(0, " + far + ")", cook.off(0, far), NO);
        }
    }

    private static void nows() {
        TastelessCook cook = Check.told("b1 1 1 1 0 0;b2 2 2 1 1 1;b0 0 0 0 0 1;p1 1 1 1;");
        Check.due("calm", cook.now(0), 3);
        Check.due("cold", cook.now(1), 6);
        Check.due("in the pot", cook.now(2), 4);
        Check.due("minded", cook.now(3), 7);
        Check.due("undoable", cook.now(4), 0);
        cook.adds(3);
        Check.due("calm then", cook.now(0), 2);
        Check.due("in the pot then", cook.now(2), 5);
        Check.due("minded then", cook.now(3), 1 + 3 + 4);
        Check.due("undoable then", cook.now(4), 1);
        cook.colds(0, 1);
        Check.due("calm with a cold", cook.now(0), 3);
        Check.due("cold then", cook.now(1), 7);
        Check.due("now(5)", cook.now(5), BAD);
        for (int far : FAR) {
            Check.due("now(" + far + ")", cook.now(far), BAD);
        }
    }

    public static void main(String[] args) {
        pots();
        miens();
        brothers();
        offs();
        nows();
        Check.finish("KitchenTest");
    }
}
