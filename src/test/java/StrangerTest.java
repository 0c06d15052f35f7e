/** Promises 18 to 21: sees, forget, likings, ask. */
public final class StrangerTest {
    private static final int BAD = TastelessCook.BAD, FULL = TastelessCook.FULL, NONE = TastelessCook.NONE;
    private static final int[] FAR = {Integer.MIN_VALUE, -1000000, -1, 9, 1000000, Integer.MAX_VALUE};

    private static void seeing() {
        TastelessCook cook = Check.told("p1 1 1 1;");
        for (int far : FAR) {
            Check.due("sees(" + far + ")", cook.sees(far), BAD);
        }
        Check.due("sees(0)", cook.sees(0), 1);
        Check.due("sees(8)", cook.sees(8), 2);
        Check.due("forget", cook.forget(), 2);
        Check.due("forget again", cook.forget(), 0);
        for (int n = 1; n <= 4; n++) {
            Check.due("sees", cook.sees(n), n);
            Check.due("count(1)", cook.count(1), n);
        }
        Check.due("a fifth", cook.sees(1), FULL);
        Check.due("BAD ahead of FULL", cook.sees(9), BAD);
        Check.due("seeing can't be undone", cook.now(4), 0);
        Check.due("forget all", cook.forget(), 4);
        Check.due("none is seen", cook.count(1), 0);
        Check.due("rows", cook.likings(0, 0), 1296);
    }

    private static void likesAre(TastelessCook cook, int rows, int... leastAndGreatest) {
        for (int part = 0; part < 4; part++) {
            String call = "likings(" + part + ", ";
            Check.due(call + "0)", cook.likings(part, 0), rows);
            Check.due(call + "1)", cook.likings(part, 1), leastAndGreatest[2 * part]);
            Check.due(call + "2)", cook.likings(part, 2), leastAndGreatest[2 * part + 1]);
        }
    }

    private static void likes() {
        TastelessCook cook = Check.told("p2 3 1 4;");
        likesAre(cook, 1296, 0, 5, 0, 5, 0, 5, 0, 5);
        cook.sees(0);
        likesAre(cook, 1, 2, 2, 3, 3, 1, 1, 4, 4);
        cook.sees(0);
        likesAre(cook, 1, 2, 2, 3, 3, 1, 1, 4, 4);
        cook.adds(0);
        likesAre(cook, 1, 2, 2, 3, 3, 1, 1, 4, 4);
        cook.sees(2);
        likesAre(cook, 0, NONE, NONE, NONE, NONE, NONE, NONE, NONE, NONE);
        cook.forget();
        // the pot is empty: salt is most wanting, the others as much at most
        cook = new TastelessCook();
        cook.sees(2);
        likesAre(cook, 8 + 27 + 64 + 125 + 216, 1, 5, 0, 5, 0, 5, 0, 5);
        cook.forget();
        cook.sees(8);
        likesAre(cook, 1 + 8 + 27 + 64 + 125, 0, 4, 0, 4, 0, 4, 1, 5);
        cook.forget();
        cook.sees(7);
        likesAre(cook, 0, NONE, NONE, NONE, NONE, NONE, NONE, NONE, NONE);
    }

    private static void likesByMorePots() {
        TastelessCook cook = Check.told("b0 0 0 0 2 1;p1 1 1 1;");
        cook.sees(2);
        cook.waters();
        cook.adds(0);
        cook.adds(0);
        cook.adds(0);
        // he likes more salt than 1 and less than 3; so no other OFF is above 1 in a pot without it
        cook.sees(1);
        likesAre(cook, 8, 2, 2, 0, 1, 0, 1, 0, 1);
    }

    private static void refused() {
        TastelessCook cook = new TastelessCook();
        int[][] calls = {{-1, 0}, {4, 0}, {0, -1}, {0, 3}};
        for (int[] call : calls) {
            Check.due("likings refused", cook.likings(call[0], call[1]), BAD);
        }
        for (int far : FAR) {
            Check.due("likings(" + far + ", 0)", cook.likings(far, 0), BAD);
            Check.due("likings(0, " + far + ")", cook.likings(0, far), BAD);
        }
    }

    private static void asking() {
        TastelessCook cook = Check.told("p2 3 1 4;");
        cook.sees(0);
        Check.due("ask with one row", cook.ask(), NONE);
        cook.adds(0);
        cook.sees(0);
        Check.due("ask with no row", cook.ask(), NONE);
        cook = new TastelessCook();
        Check.due("ask at first", cook.ask(), 0);
        Check.due("nothing is done", cook.now(2), 0);
        Check.due("nothing is seen", cook.count(1), 0);
        cook = Check.told("p5 5 5 5;");
        Check.due("ask in full: what can't be done counts as nothing done", cook.ask(), 4);
        cook = Check.told("p0 0 0 5;");
        cook.sees(0);
        cook.forget();
        Check.due("ask behind forget", cook.ask(), byAllRows(new int[] {0, 0, 0, 5}));
    }

    /** What ask answers with nothing seen, by the document's words: all 1296 rows, each deed, each mien. */
    private static int byAllRows(int[] pot) {
        int best = 0;
        int least = Integer.MAX_VALUE;
        for (int deed = 0; deed <= 5; deed++) {
            int[] then = pot.clone();
            for (int part = 0; part < 4; part++) {
                then[part] += deed == part && pot[part] < 5 ? 1 : deed == 4 && pot[part] > 0 ? -1 : 0;
            }
            int most = mostOfOneMien(then);
            if (most < least) {
                least = most;
                best = deed;
            }
        }
        return best;
    }

    private static int mostOfOneMien(int[] pot) {
        int[] tally = new int[9];
        for (int row = 0; row < 1296; row++) {
            int[] by = {pot[0] - row / 216, pot[1] - row / 36 % 6, pot[2] - row / 6 % 6, pot[3] - row % 6};
            int furthest = 0;
            for (int part = 1; part < 4; part++) {
                furthest = Math.abs(by[part]) > Math.abs(by[furthest]) ? part : furthest;
            }
            tally[by[furthest] == 0 ? 0 : 2 * furthest + (by[furthest] > 0 ? 1 : 2)]++;
        }
        int most = 0;
        for (int many : tally) {
            most = Math.max(most, many);
        }
        return most;
    }

    private static void asksWithNothingSeen() {
        for (int row = 0; row < 1296; row += 7) {
            int[] pot = {row / 216, row / 36 % 6, row / 6 % 6, row % 6};
            TastelessCook cook = Check.told("p" + pot[0] + " " + pot[1] + " " + pot[2] + " " + pot[3] + ";");
            Check.due("ask with pot number " + row, cook.ask(), byAllRows(pot));
        }
    }

    public static void main(String[] args) {
        seeing();
        likes();
        likesByMorePots();
        refused();
        asking();
        asksWithNothingSeen();
        Check.finish("StrangerTest");
    }
}
