import java.util.Arrays;

/** Promises 18 to 21: sees, forget, likings, ask. */
public final class StrangerTest {
    private static final int BAD = TastelessCook.BAD, FULL = TastelessCook.FULL, NONE = TastelessCook.NONE;
    private static final int[] FAR = {Integer.MIN_VALUE, -1000000, -1, 9, 1000000, Integer.MAX_VALUE};

    private static void seeing() {
        TastelessCook cook = Check.told("p1 1 1 1;");
        for (int far : FAR) {
            Check.due("sees(" + far + ")", cook.sees(far), BAD);
        }
        Check.due("sees(0)", cook.sees(0), 1);
        Check.due("sees(8)", cook.sees(8), 2);
        Check.due("forget", cook.forget(), 2);
        Check.due("forget again", cook.forget(), 0);
        for (int n = 1; n <= 4; n++) {
            Check.due("sees", cook.sees(n), n);
            Check.due("count(1)", cook.count(1), n);
        }
        Check.due("a fifth", cook.sees(1), FULL);
        Check.due("BAD ahead of FULL", cook.sees(9), BAD);
        Check.due("seeing can't be undone", cook.now(4), 0);
        Check.due("forget all", cook.forget(), 4);
        Check.due("none is seen", cook.count(1), 0);
        Check.due("rows", cook.likings(0, 0), 1296);
    }

    private static void likesAre(TastelessCook cook, int rows, int... leastAndGreatest) {
        for (int part = 0; part < 4; part++) {
            String call = "likings(" + part + ", ";
            Check.due(call + "0)", cook.likings(part, 0), rows);
            Check.due(call + "1)", cook.likings(part, 1), leastAndGreatest[2 * part]);
            Check.due(call + "2)", cook.likings(part, 2), leastAndGreatest[2 * part + 1]);
        }
    }

    private static void likes() {
        TastelessCook cook = Check.told("p2 3 1 4;");
        likesAre(cook, 1296, 0, 5, 0, 5, 0, 5, 0, 5);
        cook.sees(0);
        likesAre(cook, 1, 2, 2, 3, 3, 1, 1, 4, 4);
        cook.sees(0);
        likesAre(cook, 1, 2, 2, 3, 3, 1, 1, 4, 4);
        cook.adds(0);
        likesAre(cook, 1, 2, 2, 3, 3, 1, 1, 4, 4);
        cook.sees(2);
        likesAre(cook, 0, NONE, NONE, NONE, NONE, NONE, NONE, NONE, NONE);
        cook.forget();
        // the pot is empty: salt is most wanting, the others as much at most
        cook = new TastelessCook();
        cook.sees(2);
        likesAre(cook, 8 + 27 + 64 + 125 + 216, 1, 5, 0, 5, 0, 5, 0, 5);
        cook.forget();
        cook.sees(8);
        likesAre(cook, 1 + 8 + 27 + 64 + 125, 0, 4, 0, 4, 0, 4, 1, 5);
        cook.forget();
        cook.sees(7);
        likesAre(cook, 0, NONE, NONE, NONE, NONE, NONE, NONE, NONE, NONE);
    }

    private static void likesByMorePots() {
        TastelessCook cook = Check.told("b0 0 0 0 2 1;p1 1 1 1;");
        cook.sees(2);
        cook.waters();
        cook.adds(0);
        cook.adds(0);
        cook.adds(0);
        // he likes more salt than 1 and less than 3; so no other OFF is above 1 in a pot without it
        cook.sees(1);
        likesAre(cook, 8, 2, 2, 0, 1, 0, 1, 0, 1);
    }

    private static void refused() {
        TastelessCook cook = new TastelessCook();
        int[][] calls = {{-1, 0}, {4, 0}, {0, -1}, {0, 3}};
        for (int[] call : calls) {
            Check.due("likings refused", cook.likings(call[0], call[1]), BAD);
        }
        for (int far : FAR) {
            Check.due("likings(" + far + ", 0)", cook.likings(far, 0), BAD);
            Check.due("likings(0, " + far + ")", cook.likings(0, far), BAD);
        }
    }

    private static void asking() {
        TastelessCook cook = Check.told("p2 3 1 4;");
        cook.sees(0);
        Check.due("ask with one row", cook.ask(), NONE);
        cook.adds(0);
        cook.sees(0);
        Check.due("ask with no row", cook.ask(), NONE);
        cook = new TastelessCook();
        Check.due("ask at first", cook.ask(), 0);
        Check.due("nothing is done", cook.now(2), 0);
        Check.due("nothing is seen", cook.count(1), 0);
        cook = Check.told("p5 5 5 5;");
        Check.due("ask in full: what can't be done counts as nothing done", cook.ask(), 4);
    }

    private static void asksOfTwo() {
        // 0 1 0 0 and 0 1 1 0 are left: with sour as they like it they show pepper, sweet
        TastelessCook cook = Check.told("p0 0 0 2;");
        cook.sees(7);
        cook.waters();
        cook.sees(4);
        likesAre(cook, 2, 0, 0, 1, 1, 0, 1, 0, 0);
        Check.due("ask of two: sour", cook.ask(), 1);
        // 0 0 0 0 and 0 0 0 1 are left: more pepper is too much for one, for the other no more than sweet is
        cook = Check.told("p0 0 1 0;");
        cook.sees(5);
        cook.adds(3);
        cook.sees(5);
        likesAre(cook, 2, 0, 0, 0, 0, 0, 0, 0, 1);
        Check.due("ask of two: pepper", cook.ask(), 3);
        // the same two: here one of them is calm behind water
        cook = Check.told("p0 0 1 0;");
        cook.sees(5);
        cook.adds(0);
        cook.sees(1);
        likesAre(cook, 2, 0, 0, 0, 0, 0, 0, 0, 1);
        Check.due("ask of two: water", cook.ask(), 4);
    }

    private static int[] row(int number) {
        return new int[] {number / 216, number / 36 % 6, number / 6 % 6, number % 6};
    }

    private static int mien(int[] likes, int[] pot) {
        int furthest = 0;
        for (int part = 1; part < 4; part++) {
            int by = Math.abs(pot[part] - likes[part]);
            furthest = by > Math.abs(pot[furthest] - likes[furthest]) ? part : furthest;
        }
        int by = pot[furthest] - likes[furthest];
        return by == 0 ? 0 : 2 * furthest + (by > 0 ? 1 : 2);
    }

    private static int[] behind(int[] pot, int deed) {
        int[] then = pot.clone();
        for (int part = 0; part < 4; part++) {
            then[part] += deed == part && pot[part] < 5 ? 1 : deed == 4 && pot[part] > 0 ? -1 : 0;
        }
        return then;
    }

    /** What ask answers by the document's words, if a mien (-1: none) was seen with another pot. */
    private static int byAllRows(int[] pot, int[] seenPot, int seenMien) {
        int best = NONE;
        int least = Integer.MAX_VALUE;
        for (int deed = 0; deed <= 5; deed++) {
            int[] tally = new int[9];
            int rows = 0;
            for (int number = 0; number < 1296; number++) {
                if (seenMien < 0 || mien(row(number), seenPot) == seenMien) {
                    rows++;
                    tally[mien(row(number), behind(pot, deed))]++;
                }
            }
            int most = Arrays.stream(tally).max().getAsInt();
            if (rows > 1 && most < least) {
                least = most;
                best = deed;
            }
        }
        return best;
    }

    private static void asksByAllRows() {
        boolean[] answered = new boolean[6];
        for (int number = 0; number < 1296; number += 7) {
            int[] pot = row(number);
            TastelessCook cook = Check.told("p" + pot[0] + " " + pot[1] + " " + pot[2] + " " + pot[3] + ";");
            Check.due("ask with pot " + number + ", nothing seen", cook.ask(), byAllRows(pot, pot, -1));
            for (int mien = 0; mien < 9; mien++) {
                cook.forget();
                cook.sees(mien);
                cook.adds(mien % 4);
                int[] then = {cook.pot(0), cook.pot(1), cook.pot(2), cook.pot(3)};
                int want = byAllRows(then, pot, mien);
                Check.due("ask behind pot " + number + ", mien " + mien, cook.ask(), want);
                pot = then;
                if (want >= 0) {
                    answered[want] = true;
                }
            }
        }
        for (int deed = 0; deed <= 5; deed++) {
            Check.holds("answer " + deed + " was due once at least", answered[deed]);
        }
    }

    public static void main(String[] args) {
        seeing();
        likes();
        likesByMorePots();
        refused();
        asking();
        asksOfTwo();
        asksByAllRows();
        Check.finish("StrangerTest");
    }
}
