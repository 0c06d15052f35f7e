import java.util.Arrays;

/**
 * A cook who is forbidden to taste goes by what is seen of the brothers at the hatch.
 *
 * <p>The kitchen is told by a text, letter by letter; then parts are added, water, spoons are sent in, colds come
 * and go, and all of it can be undone. The rest answers what to do next, and changes nothing.
 */
public final class TastelessCook {
    public static final int BAD = -1, STATE = -2, FULL = -3, NONE = -9;
    public static final int NO = -1000000;

    private static final int PARTS = 4;
    private static final int PEPPER = 3;
    private static final int MOST = 5;
    /** How many rows of four numbers 0 .. MOST there are: so many pots, so many ways to like them. */
    private static final int ROWS = 1296;
    private static final int BROTHERS = 6;
    private static final int MIENS = 9;
    private static final int CALM = 0;
    private static final int WATER = 4;
    private static final int DEEDS = 5;
    private static final int LONGEST_PLAN = 5;
    private static final int UNDOABLE = 10;
    private static final int IMAGES = 2;
    private static final int SIGHTS = 4;
    private static final int LETTERS = 120;
    private static final int LAST_LETTER = 255;
    private static final int FIRST_FAULT = -10;
    private static final int OUT_OF = 10;

    /** Where blunt and cold stand in what is told of a brother, behind his likes. */
    private static final int BLUNT = 4, COLD = 5;
    /** The most that each number of an item may be; a pot's item has the first four alone. */
    private static final int[] LIMITS = {5, 5, 5, 5, 2, 1};

    private final Text text = new Text();
    private final Brothers brothers = new Brothers();
    private final Scene present = new Scene();
    private final Past past = new Past();
    private final Scene[] images = {new Scene(), new Scene()};
    private final boolean[] kept = new boolean[IMAGES];
    private final Stranger stranger = new Stranger();
    private final Planner planner = new Planner();
    private long traced;

    public TastelessCook() {
    }

    // ---- the kitchen

    public int type(int letter) {
        if (letter < 0 || letter > LAST_LETTER) {
            return BAD;
        }
        if (text.length >= LETTERS) {
            return FULL;
        }
        return text.append(letter);
    }

    public int clear() {
        return text.empty();
    }

    public int kitchen() {
        int items = text.read();
        if (items >= 0) {
            beginAnew();
        }
        return items;
    }

    public int pot(int part) {
        return isPart(part) ? present.pot[part] : BAD;
    }

    public int brother(int b, int what) {
        if (!brothers.has(b) || what < 0 || what > 8) {
            return BAD;
        }
        if (what < PARTS) {
            return brothers.all[b].likes[what];
        }
        switch (what) {
            case 4:
                return brothers.all[b].blunt;
            case 5:
                return present.cold[b];
            case 6:
                return brothers.mienOf(b, present);
            case 7:
                return brothers.mindOf(b, present);
            default:
                return present.shown[b];
        }
    }

    public int off(int b, int part) {
        if (!brothers.has(b) || !isPart(part)) {
            return NO;
        }
        return brothers.all[b].offBy(part, present.pot[part], present.cold[b]);
    }

    public int now(int what) {
        switch (what) {
            case 0:
                return brothers.calmSet(present);
            case 1:
                return present.coldSet();
            case 2:
                return total(present.pot);
            case 3:
                return brothers.mindOfAll(present);
            case 4:
                return past.known;
            default:
                return BAD;
        }
    }

    // ---- what is done

    public int adds(int part) {
        if (!isPart(part)) {
            return BAD;
        }
        if (present.pot[part] >= MOST) {
            return STATE;
        }
        past.remember(present);
        change(present.pot, part);
        return present.pot[part];
    }

    public int waters() {
        if (total(present.pot) == 0) {
            return STATE;
        }
        past.remember(present);
        change(present.pot, WATER);
        return total(present.pot);
    }

    public int sends(int b) {
        if (!brothers.has(b)) {
            return BAD;
        }
        past.remember(present);
        present.shown[b] = brothers.mienOf(b, present);
        return present.shown[b];
    }

    public int colds(int b, int is) {
        if (!brothers.has(b) || is < 0 || is > 1) {
            return BAD;
        }
        if (present.cold[b] == is) {
            return STATE;
        }
        past.remember(present);
        present.cold[b] = is;
        return Integer.bitCount(present.coldSet());
    }

    public int undo() {
        if (past.known <= 0) {
            return STATE;
        }
        return past.bringBack(present);
    }

    // ---- what to do

    public int plan(int set, int k) {
        if (set < 0 || set > brothers.everyone() || k < -1 || k >= LONGEST_PLAN) {
            return BAD;
        }
        int length = planner.search(brothers, present, set);
        if (k < 0) {
            return length;
        }
        return k < length ? planner.row[k] : NONE;
    }

    public int middle(int what) {
        if (what < 0 || what > PARTS) {
            return BAD;
        }
        int everyone = brothers.everyone();
        if (what == PARTS) {
            return brothers.leastMind(everyone, present.cold);
        }
        return brothers.bestAmount(everyone, what, present.cold);
    }

    public int parted(int what) {
        if (what < 0 || what > 1) {
            return BAD;
        }
        int first = brothers.bestParting(present.cold);
        return what == 0 ? first : brothers.partedMind(first);
    }

    public int odds(int x, int k, int what) {
        if (x < 0 || x > OUT_OF || k < 0 || k > BROTHERS || what < 0 || what > 1) {
            return BAD;
        }
        brothers.countWays(present.pot, x);
        return inLeastTerms(brothers.waysFrom(k), brothers.waysFrom(0), what);
    }

    // ---- a stranger

    public int sees(int mien) {
        if (mien < 0 || mien >= MIENS) {
            return BAD;
        }
        if (stranger.sights >= SIGHTS) {
            return FULL;
        }
        return stranger.notice(present.pot, mien);
    }

    public int forget() {
        int sights = stranger.sights;
        stranger.sights = 0;
        return sights;
    }

    public int likings(int part, int what) {
        if (!isPart(part) || what < 0 || what > 2) {
            return BAD;
        }
        stranger.gather(part);
        if (what == 0) {
            return stranger.rows;
        }
        if (stranger.rows == 0) {
            return NONE;
        }
        return what == 1 ? stranger.least : stranger.greatest;
    }

    public int ask() {
        return stranger.bestQuestion(present.pot);
    }

    // ---- kinds, images

    public int rate(int kind, int b) {
        if (!brothers.has(b)) {
            return NO;
        }
        switch (kind) {
            case 0:
                return asBrother(b);
            case 1:
                return asNovice(b);
            case 2:
                return asAbbot(b);
            case 3:
                return asGiles(b);
            case 4:
                return asPrior(b);
            case 5:
                return asCellarer(b);
            default:
                return NO;
        }
    }

    public int keep(int image) {
        if (!isImage(image)) {
            return BAD;
        }
        images[image].become(present);
        kept[image] = true;
        return brothers.howManyCalm(present);
    }

    public int back(int image) {
        if (!isImage(image)) {
            return BAD;
        }
        if (!kept[image]) {
            return STATE;
        }
        present.become(images[image]);
        past.known = 0;
        return brothers.howManyCalm(present);
    }

    public int count(int what) {
        switch (what) {
            case 0:
                return brothers.many;
            case 1:
                return stranger.sights;
            case 2:
                return text.length;
            default:
                return BAD;
        }
    }

    public long trace() {
        return traced;
    }

    // ---- inside

    private void beginAnew() {
        brothers.become(text.rows, text.brothers);
        present.begin(text.pot, text.rows, text.brothers);
        past.known = 0;
        for (int image = 0; image < IMAGES; image++) {
            kept[image] = false;
        }
        stranger.sights = 0;
        text.empty();
    }

    private int asBrother(int b) {
        traced += 1;
        return brothers.mindOf(b, present);
    }

    private int asNovice(int b) {
        traced += 10;
        return asBrother(b) + brothers.all[b].blunt;
    }

    private int asAbbot(int b) {
        traced += 100;
        return asBrother(b) - brothers.mienOf(b, present);
    }

    private int asGiles(int b) {
        traced += 1000;
        return 2 * asNovice(b);
    }

    private int asPrior(int b) {
        traced += 10000;
        return asAbbot(b) + b;
    }

    private int asCellarer(int b) {
        traced += 100000;
        return asBrother(b) + total(present.pot);
    }

    private static boolean isPart(int part) {
        return part >= 0 && part < PARTS;
    }

    private static boolean isImage(int image) {
        return image >= 0 && image < IMAGES;
    }

    private static int total(int[] pot) {
        int sum = 0;
        for (int amount : pot) {
            sum += amount;
        }
        return sum;
    }

    /** Does a deed to a pot; one that can't be done, and one that is none, leave the pot as it is. */
    private static void change(int[] pot, int deed) {
        if (deed == WATER) {
            for (int part = 0; part < PARTS; part++) {
                pot[part] = Math.max(0, pot[part] - 1);
            }
        } else if (isPart(deed)) {
            pot[deed] = Math.min(MOST, pot[deed] + 1);
        }
    }

    /** The number of a row of four among all of them, so that a row can be looked up. */
    private static int numberOf(int[] row) {
        int number = 0;
        for (int part = 0; part < PARTS; part++) {
            number = number * (MOST + 1) + row[part];
        }
        return number;
    }

    private static void rowOf(int number, int[] row) {
        int rest = number;
        for (int part = PARTS - 1; part >= 0; part--) {
            row[part] = rest % (MOST + 1);
            rest /= MOST + 1;
        }
    }

    /** The lower number is a power of ten, so only twos and fives can be common to both. */
    private static int inLeastTerms(int upper, int lower, int what) {
        int up = upper;
        int low = lower;
        for (int turn = 0; turn < BROTHERS && up % 2 == 0 && low % 2 == 0; turn++) {
            up /= 2;
            low /= 2;
        }
        for (int turn = 0; turn < BROTHERS && up % 5 == 0 && low % 5 == 0; turn++) {
            up /= 5;
            low /= 5;
        }
        return what == 0 ? up : low;
    }

    /** The text, and what it tells when it is read. */
    private static final class Text {
        final int[] letters = new int[LETTERS];
        int length;
        final int[][] rows = new int[BROTHERS][LIMITS.length];
        int brothers;
        final int[] pot = new int[PARTS];
        boolean potTold;
        /** Where reading is; when it fails, where the token stands that can't stand there. */
        int place;

        int append(int letter) {
            if (length < LETTERS) {
                letters[length] = letter;
                length++;
            }
            return length;
        }

        int empty() {
            int had = length;
            length = 0;
            return had;
        }

        /** How many items the text tells, or FIRST_FAULT less the fault. */
        int read() {
            place = 0;
            brothers = 0;
            potTold = false;
            Arrays.fill(pot, 0);
            for (int items = 0; items <= LETTERS; items++) {
                skipBlanks();
                if (place >= length) {
                    return items;
                }
                if (!readItem()) {
                    return FIRST_FAULT - place;
                }
            }
            return FIRST_FAULT - place;
        }

        private boolean readItem() {
            if (isAt(place, 'b') && brothers < BROTHERS) {
                place++;
                brothers++;
                return readRow(rows[brothers - 1]);
            }
            if (isAt(place, 'p') && !potTold) {
                place++;
                potTold = true;
                return readRow(pot);
            }
            return false;
        }

        private boolean readRow(int[] row) {
            for (int index = 0; index < row.length && index < LIMITS.length; index++) {
                skipBlanks();
                int digit = digitAt(place);
                // No limit is above 9, so a number of two digits is too great, or has a 0 ahead of others.
                if (digit < 0 || digit > LIMITS[index] || digitAt(place + 1) >= 0) {
                    return false;
                }
                row[index] = digit;
                place++;
            }
            skipBlanks();
            if (!isAt(place, ';')) {
                return false;
            }
            place++;
            return true;
        }

        private void skipBlanks() {
            while (place < length && isAt(place, ' ')) {
                place++;
            }
        }

        private boolean isAt(int at, int letter) {
            return at >= 0 && at < length && at < LETTERS && letters[at] == letter;
        }

        private int digitAt(int at) {
            if (at < 0 || at >= length || at >= LETTERS || letters[at] < '0' || letters[at] > '9') {
                return -1;
            }
            return letters[at] - '0';
        }
    }

    /** One who tastes: a brother, or what the stranger may be. */
    private static final class Taster {
        final int[] likes = new int[PARTS];
        int blunt;

        int offBy(int part, int amount, int cold) {
            int tasted = part == PEPPER && cold == 1 ? amount / 2 : amount;
            return tasted - likes[part];
        }

        int mien(int[] pot, int cold) {
            int furthest = blunt;
            int mien = CALM;
            for (int part = 0; part < PARTS; part++) {
                int by = offBy(part, pot[part], cold);
                if (Math.abs(by) > furthest) {
                    furthest = Math.abs(by);
                    mien = 2 * part + (by > 0 ? 1 : 2);
                }
            }
            return mien;
        }

        int mind(int[] pot, int cold) {
            int sum = 0;
            for (int part = 0; part < PARTS; part++) {
                sum += Math.abs(offBy(part, pot[part], cold));
            }
            return sum;
        }
    }

    /** What an image keeps, and what undoing brings back. */
    private static final class Scene {
        final int[] pot = new int[PARTS];
        final int[] cold = new int[BROTHERS];
        final int[] shown = new int[BROTHERS];

        void become(Scene other) {
            System.arraycopy(other.pot, 0, pot, 0, PARTS);
            System.arraycopy(other.cold, 0, cold, 0, BROTHERS);
            System.arraycopy(other.shown, 0, shown, 0, BROTHERS);
        }

        void begin(int[] toldPot, int[][] rows, int many) {
            System.arraycopy(toldPot, 0, pot, 0, PARTS);
            for (int b = 0; b < BROTHERS; b++) {
                cold[b] = b < many ? rows[b][COLD] : 0;
                shown[b] = NONE;
            }
        }

        int coldSet() {
            int set = 0;
            for (int b = 0; b < BROTHERS; b++) {
                set |= cold[b] << b;
            }
            return set;
        }
    }

    /** The scenes ahead of the latest things done, in a ring: one more pushes out the oldest. */
    private static final class Past {
        final Scene[] scenes = new Scene[UNDOABLE];
        int next;
        int known;

        Past() {
            for (int i = 0; i < UNDOABLE; i++) {
                scenes[i] = new Scene();
            }
        }

        void remember(Scene scene) {
            scenes[next].become(scene);
            next = next + 1 < UNDOABLE ? next + 1 : 0;
            known = Math.min(UNDOABLE, known + 1);
        }

        int bringBack(Scene scene) {
            next = next > 0 ? next - 1 : UNDOABLE - 1;
            known--;
            scene.become(scenes[next]);
            return known;
        }
    }

    /** All brothers, and what sets of them (as bits) make of a pot. */
    private static final class Brothers {
        final Taster[] all = new Taster[BROTHERS];
        int many;
        /** For each set of brothers how much they mind the pot that they mind least. */
        final int[] leastMinds = new int[1 << BROTHERS];
        /** In how many ways, of OUT_OF to the power of many, just so many are calm. */
        final int[] ways = new int[BROTHERS + 1];

        Brothers() {
            for (int b = 0; b < BROTHERS; b++) {
                all[b] = new Taster();
            }
        }

        void become(int[][] rows, int told) {
            many = Math.min(told, BROTHERS);
            for (int b = 0; b < many; b++) {
                System.arraycopy(rows[b], 0, all[b].likes, 0, PARTS);
                all[b].blunt = rows[b][BLUNT];
            }
        }

        boolean has(int b) {
            return b >= 0 && b < many;
        }

        int everyone() {
            return (1 << many) - 1;
        }

        int mienOf(int b, Scene scene) {
            return all[b].mien(scene.pot, scene.cold[b]);
        }

        int mindOf(int b, Scene scene) {
            return all[b].mind(scene.pot, scene.cold[b]);
        }

        int mindOfAll(Scene scene) {
            int sum = 0;
            for (int b = 0; b < many; b++) {
                sum += mindOf(b, scene);
            }
            return sum;
        }

        int calmSet(Scene scene) {
            int set = 0;
            for (int b = 0; b < many; b++) {
                if (mienOf(b, scene) == CALM) {
                    set |= 1 << b;
                }
            }
            return set;
        }

        int howManyCalm(Scene scene) {
            return Integer.bitCount(calmSet(scene));
        }

        boolean areCalm(int set, Scene scene) {
            for (int b = 0; b < many; b++) {
                if ((set >> b & 1) == 1 && mienOf(b, scene) != CALM) {
                    return false;
                }
            }
            return true;
        }

        /** How much a set minds one part of a pot. */
        private int mindPart(int set, int part, int amount, int[] cold) {
            int sum = 0;
            for (int b = 0; b < many; b++) {
                if ((set >> b & 1) == 1) {
                    sum += Math.abs(all[b].offBy(part, amount, cold[b]));
                }
            }
            return sum;
        }

        /** What is minded of one part has nothing to do with the others, so each part of a middle is found alone. */
        int bestAmount(int set, int part, int[] cold) {
            int best = 0;
            int least = mindPart(set, part, 0, cold);
            for (int amount = 1; amount <= MOST; amount++) {
                int mind = mindPart(set, part, amount, cold);
                if (mind < least) {
                    least = mind;
                    best = amount;
                }
            }
            return best;
        }

        int leastMind(int set, int[] cold) {
            int sum = 0;
            for (int part = 0; part < PARTS; part++) {
                sum += mindPart(set, part, bestAmount(set, part, cold), cold);
            }
            return sum;
        }

        int bestParting(int[] cold) {
            int everyone = everyone();
            for (int set = 0; set <= everyone; set++) {
                leastMinds[set] = leastMind(set, cold);
            }
            int best = 0;
            for (int set = 1; set <= everyone; set++) {
                if (partedMind(set) < partedMind(best)) {
                    best = set;
                }
            }
            return best;
        }

        /** Goes by the minds that bestParting has found. */
        int partedMind(int first) {
            return leastMinds[first] + leastMinds[everyone() - first];
        }

        void countWays(int[] pot, int x) {
            Arrays.fill(ways, 0);
            ways[0] = 1;
            for (int b = 0; b < many; b++) {
                int calm = all[b].mien(pot, 1) == CALM ? x : 0;
                calm += all[b].mien(pot, 0) == CALM ? OUT_OF - x : 0;
                for (int k = b + 1; k > 0; k--) {
                    ways[k] = ways[k] * (OUT_OF - calm) + ways[k - 1] * calm;
                }
                ways[0] *= OUT_OF - calm;
            }
        }

        int waysFrom(int k) {
            int sum = 0;
            for (int calm = k; calm <= BROTHERS; calm++) {
                sum += ways[calm];
            }
            return sum;
        }
    }

    /** Looks for the fewest deeds, breadth first by rising deeds: so the first of the shortest rows comes first. */
    private static final class Planner {
        final int[] row = new int[LONGEST_PLAN];
        /** The pots that deeds lead to, by their numbers, as they were reached. */
        final int[] reached = new int[ROWS];
        final int[] lengths = new int[ROWS];
        final int[] from = new int[ROWS];
        final int[] deeds = new int[ROWS];
        int many;
        final boolean[] known = new boolean[ROWS];
        final Scene trial = new Scene();

        /** How many deeds (they are in row then), or NONE. */
        int search(Brothers brothers, Scene scene, int set) {
            forgetReached();
            trial.become(scene);
            reach(0, 0, NONE);
            for (int i = 0; i < many && i < ROWS; i++) {
                rowOf(reached[i], trial.pot);
                if (brothers.areCalm(set, trial)) {
                    tellRow(i);
                    return lengths[i];
                }
                if (lengths[i] < LONGEST_PLAN) {
                    goOnFrom(i);
                }
            }
            return NONE;
        }

        /** Only what was reached is known, so there is no need to go through all pots. */
        private void forgetReached() {
            for (int i = 0; i < many && i < ROWS; i++) {
                known[reached[i]] = false;
            }
            many = 0;
        }

        private void goOnFrom(int i) {
            for (int deed = 0; deed < DEEDS; deed++) {
                rowOf(reached[i], trial.pot);
                change(trial.pot, deed);
                reach(lengths[i] + 1, i, deed);
            }
        }

        private void reach(int length, int before, int deed) {
            int number = numberOf(trial.pot);
            if (number < 0 || number >= ROWS || many >= ROWS || known[number]) {
                return;
            }
            known[number] = true;
            reached[many] = number;
            lengths[many] = length;
            from[many] = before;
            deeds[many] = deed;
            many++;
        }

        private void tellRow(int last) {
            int i = last;
            for (int k = Math.min(lengths[last], LONGEST_PLAN) - 1; k >= 0; k--) {
                row[k] = deeds[i];
                i = from[i];
            }
        }
    }

    /** What was seen of a stranger, who is not blunt and has no cold, and what he may like by it. */
    private static final class Stranger {
        final int[] miens = new int[SIGHTS];
        final int[][] pots = new int[SIGHTS][PARTS];
        int sights;
        final Taster guess = new Taster();
        int rows;
        int least;
        int greatest;
        /** The pot behind each deed, and behind none. */
        final int[][] after = new int[DEEDS + 1][PARTS];
        /** How many rows would show each mien behind each deed, and behind none. */
        final int[][] tally = new int[DEEDS + 1][MIENS];

        int notice(int[] pot, int mien) {
            if (sights < SIGHTS) {
                System.arraycopy(pot, 0, pots[sights], 0, PARTS);
                miens[sights] = mien;
                sights++;
            }
            return sights;
        }

        /** Whether all that was seen is so, if his likes are the row of that number (he is taken for such then). */
        private boolean fits(int number) {
            rowOf(number, guess.likes);
            for (int i = 0; i < sights && i < SIGHTS; i++) {
                if (guess.mien(pots[i], 0) != miens[i]) {
                    return false;
                }
            }
            return true;
        }

        /** Finds how many rows of likes fit, and the least and the greatest like of one part in them. */
        void gather(int part) {
            rows = 0;
            least = MOST;
            greatest = 0;
            for (int number = 0; number < ROWS; number++) {
                if (fits(number)) {
                    rows++;
                    least = Math.min(least, guess.likes[part]);
                    greatest = Math.max(greatest, guess.likes[part]);
                }
            }
        }

        int bestQuestion(int[] pot) {
            foresee(pot);
            rows = 0;
            for (int number = 0; number < ROWS; number++) {
                if (fits(number)) {
                    rows++;
                    tallyGuess();
                }
            }
            return rows <= 1 ? NONE : mostTelling();
        }

        private void foresee(int[] pot) {
            for (int deed = 0; deed <= DEEDS; deed++) {
                System.arraycopy(pot, 0, after[deed], 0, PARTS);
                change(after[deed], deed);
                Arrays.fill(tally[deed], 0);
            }
        }

        private void tallyGuess() {
            for (int deed = 0; deed <= DEEDS; deed++) {
                tally[deed][guess.mien(after[deed], 0)]++;
            }
        }

        private int mostTelling() {
            int best = 0;
            for (int deed = 1; deed <= DEEDS; deed++) {
                if (greatestOf(tally[deed]) < greatestOf(tally[best])) {
                    best = deed;
                }
            }
            return best;
        }

        private static int greatestOf(int[] numbers) {
            int top = 0;
            for (int number : numbers) {
                top = Math.max(top, number);
            }
            return top;
        }
    }
}
