import java.math.BigInteger;
import java.util.ArrayList;
import java.util.Arrays;
import java.util.List;

/**
 * The document once more, word by word and without any thrift: ModelTest holds TastelessCook against it.
 * It goes other ways than the class does on purpose: whatever can be tried out one by one is tried out.
 */
final class PlainCook {
    private static final int BAD = -1, STATE = -2, FULL = -3, NONE = -9, NO = -1000000;

    /** All that an image keeps. */
    private static final class View {
        int[] pot = new int[4];
        boolean[] cold = new boolean[6];
        int[] shown = new int[] {NONE, NONE, NONE, NONE, NONE, NONE};

        View copy() {
            View copy = new View();
            copy.pot = pot.clone();
            copy.cold = cold.clone();
            copy.shown = shown.clone();
            return copy;
        }
    }

    private String text = "";
    private List<int[]> brothers = new ArrayList<>();
    private View view = new View();
    private List<View> past = new ArrayList<>();
    private View[] images = new View[2];
    private final List<int[]> seen = new ArrayList<>();
    private long trace = 0;

    long call(String name, int a, int b, int c) {
        switch (name) {
            case "type": return type(a);
            case "clear": return clear();
            case "kitchen": return kitchen();
            case "pot": return in(a, 4) ? view.pot[a] : BAD;
            case "brother": return brother(a, b);
            case "off": return in(a, brothers.size()) && in(b, 4) ? offs(a, view.pot, view.cold[a])[b] : NO;
            case "now": return now(a);
            case "adds": return adds(a);
            case "waters": return waters();
            case "sends": return sends(a);
            case "colds": return colds(a, b);
            case "undo": return undo();
            case "plan": return plan(a, b);
            case "middle": return middle(a);
            case "parted": return parted(a);
            case "odds": return odds(a, b, c);
            case "sees": return sees(a);
            case "forget": int had = seen.size(); seen.clear(); return had;
            case "likings": return likings(a, b);
            case "ask": return ask();
            case "rate": return rate(a, b);
            case "keep": return keep(a);
            case "back": return back(a);
            case "count": return in(a, 3) ? new int[] {brothers.size(), seen.size(), text.length()}[a] : BAD;
            case "trace": return trace;
            default: throw new IllegalStateException(name);
        }
    }

    private static boolean in(int number, int end) {
        return number >= 0 && number < end;
    }

    // ---- the text

    private int type(int letter) {
        if (!in(letter, 256)) return BAD;
        if (text.length() == 120) return FULL;
        text += (char) letter;
        return text.length();
    }

    private int clear() {
        int had = text.length();
        text = "";
        return had;
    }

    /** Tokens with their places, as far as letters go together; blanks are none. */
    private List<Object[]> tokens() {
        List<Object[]> tokens = new ArrayList<>();
        int at = 0;
        while (at < text.length()) {
            int end = at + 1;
            if (text.charAt(at) >= '0' && text.charAt(at) <= '9') {
                while (end < text.length() && text.charAt(end) >= '0' && text.charAt(end) <= '9') end++;
            }
            if (text.charAt(at) != ' ') tokens.add(new Object[] {text.substring(at, end), at});
            at = end;
        }
        tokens.add(new Object[] {"", text.length()});
        return tokens;
    }

    private int kitchen() {
        List<int[]> told = new ArrayList<>();
        int[] pot = null;
        int items = 0;
        List<Integer> wanted = new ArrayList<>();
        List<Integer> numbers = new ArrayList<>();
        String item = "";
        for (Object[] token : tokens()) {
            String word = (String) token[0];
            int fault = -10 - (Integer) token[1];
            if (word.isEmpty() && item.isEmpty()) break;
            if (item.isEmpty()) {
                if (word.equals("b") && told.size() < 6) wanted = new ArrayList<>(List.of(5, 5, 5, 5, 2, 1));
                else if (word.equals("p") && pot == null) wanted = new ArrayList<>(List.of(5, 5, 5, 5));
                else return fault;
                item = word;
                numbers = new ArrayList<>();
            } else if (!wanted.isEmpty()) {
                if (!word.matches("0|[1-9][0-9]?") || Integer.parseInt(word) > wanted.remove(0)) return fault;
                numbers.add(Integer.parseInt(word));
            } else {
                if (!word.equals(";")) return fault;
                int[] row = numbers.stream().mapToInt(n -> n).toArray();
                if (item.equals("b")) told.add(row);
                else pot = row;
                items++;
                item = "";
            }
        }
        brothers = told;
        view = new View();
        if (pot != null) view.pot = pot;
        for (int b = 0; b < told.size(); b++) view.cold[b] = told.get(b)[5] == 1;
        past.clear();
        images = new View[2];
        seen.clear();
        text = "";
        return items;
    }

    // ---- tasting

    private static int[] offs(int[] likes, int[] pot, boolean cold) {
        int[] offs = new int[4];
        for (int part = 0; part < 4; part++) {
            offs[part] = (part == 3 && cold ? (int) Math.floor(pot[part] / 2.0) : pot[part]) - likes[part];
        }
        return offs;
    }

    private int[] offs(int b, int[] pot, boolean cold) {
        return offs(brothers.get(b), pot, cold);
    }

    private static int mien(int[] offs, int blunt) {
        int furthest = Arrays.stream(offs).map(Math::abs).max().getAsInt();
        if (furthest <= blunt) return 0;
        int part = 0;
        while (Math.abs(offs[part]) != furthest) part++;
        return (offs[part] > 0 ? 1 : 2) + 2 * part;
    }

    private int mien(int b, int[] pot, boolean cold) {
        return mien(offs(b, pot, cold), brothers.get(b)[4]);
    }

    private int mind(int b, int[] pot) {
        return Arrays.stream(offs(b, pot, view.cold[b])).map(Math::abs).sum();
    }

    private int calm(int[] pot, boolean[] cold) {
        int set = 0;
        for (int b = 0; b < brothers.size(); b++) if (mien(b, pot, cold[b]) == 0) set += 1 << b;
        return set;
    }

    private int brother(int b, int what) {
        if (!in(b, brothers.size()) || !in(what, 9)) return BAD;
        if (what < 5) return brothers.get(b)[what];
        if (what == 5) return view.cold[b] ? 1 : 0;
        if (what == 6) return mien(b, view.pot, view.cold[b]);
        return what == 7 ? mind(b, view.pot) : view.shown[b];
    }

    private int now(int what) {
        int cold = 0;
        int minded = 0;
        for (int b = 0; b < brothers.size(); b++) {
            if (view.cold[b]) cold += 1 << b;
            minded += mind(b, view.pot);
        }
        int[] all = {calm(view.pot, view.cold), cold, Arrays.stream(view.pot).sum(), minded, past.size()};
        return in(what, 5) ? all[what] : BAD;
    }

    // ---- what is done

    private void remember() {
        past.add(view.copy());
        if (past.size() > 10) past.remove(0);
    }

    private int adds(int part) {
        if (!in(part, 4)) return BAD;
        if (view.pot[part] == 5) return STATE;
        remember();
        return ++view.pot[part];
    }

    private int waters() {
        if (now(2) == 0) return STATE;
        remember();
        view.pot = behind(view.pot, 4);
        return now(2);
    }

    private int sends(int b) {
        if (!in(b, brothers.size())) return BAD;
        remember();
        view.shown[b] = brother(b, 6);
        return view.shown[b];
    }

    private int colds(int b, int is) {
        if (!in(b, brothers.size()) || !in(is, 2)) return BAD;
        if (view.cold[b] == (is == 1)) return STATE;
        remember();
        view.cold[b] = is == 1;
        return Integer.bitCount(now(1));
    }

    private int undo() {
        if (past.isEmpty()) return STATE;
        view = past.remove(past.size() - 1);
        return past.size();
    }

    // ---- what to do

    private static int[] behind(int[] pot, int deed) {
        int[] then = pot.clone();
        if (deed < 4 && then[deed] < 5) then[deed]++;
        for (int part = 0; part < 4; part++) if (deed == 4 && then[part] > 0) then[part]--;
        return then;
    }

    private int plan(int set, int k) {
        if (!in(set, 1 << brothers.size()) || k < -1 || k > 4) return BAD;
        int rows = 1;
        for (int length = 0; length <= 5; length++, rows *= 5) {
            for (int number = 0; number < rows; number++) {
                String row = length == 0 ? "" : "0".repeat(length) + Integer.toString(number, 5);
                row = row.substring(Math.max(0, row.length() - length));
                int[] pot = view.pot;
                for (int i = 0; i < length; i++) pot = behind(pot, row.charAt(i) - '0');
                if ((calm(pot, view.cold) & set) == set) {
                    return k < 0 ? length : k < length ? row.charAt(k) - '0' : NONE;
                }
            }
        }
        return NONE;
    }

    private static int[] row(int number) {
        return new int[] {number / 216, number / 36 % 6, number / 6 % 6, number % 6};
    }

    /** The number of the pot that a set minds least, and how much it does. */
    private int[] middleOf(int set) {
        int best = -1;
        int least = Integer.MAX_VALUE;
        for (int number = 0; number < 1296; number++) {
            int sum = 0;
            for (int b = 0; b < brothers.size(); b++) if ((set & 1 << b) != 0) sum += mind(b, row(number));
            if (sum < least) {
                least = sum;
                best = number;
            }
        }
        return new int[] {best, least};
    }

    private int middle(int what) {
        if (!in(what, 5)) return BAD;
        int[] best = middleOf((1 << brothers.size()) - 1);
        return what == 4 ? best[1] : row(best[0])[what];
    }

    private int parted(int what) {
        if (!in(what, 2)) return BAD;
        int sets = 1 << brothers.size();
        int[] minds = new int[sets];
        for (int set = 0; set < sets; set++) minds[set] = middleOf(set)[1];
        int best = 0;
        for (int set = 0; set < sets; set++) {
            if (minds[set] + minds[sets - 1 - set] < minds[best] + minds[sets - 1 - best]) best = set;
        }
        return what == 0 ? best : minds[best] + minds[sets - 1 - best];
    }

    /** Goes through all ways in which colds can be about. */
    private int odds(int x, int k, int what) {
        if (!in(x, 11) || !in(k, 7) || !in(what, 2)) return BAD;
        BigInteger upper = BigInteger.ZERO;
        for (int set = 0; set < 1 << brothers.size(); set++) {
            boolean[] cold = new boolean[6];
            BigInteger weight = BigInteger.ONE;
            for (int b = 0; b < brothers.size(); b++) {
                cold[b] = (set & 1 << b) != 0;
                weight = weight.multiply(BigInteger.valueOf(cold[b] ? x : 10 - x));
            }
            if (Integer.bitCount(calm(view.pot, cold)) >= k) upper = upper.add(weight);
        }
        BigInteger lower = BigInteger.TEN.pow(brothers.size());
        return (what == 0 ? upper : lower).divide(upper.gcd(lower)).intValueExact();
    }

    // ---- a stranger

    private int sees(int mien) {
        if (!in(mien, 9)) return BAD;
        if (seen.size() == 4) return FULL;
        seen.add(new int[] {view.pot[0], view.pot[1], view.pot[2], view.pot[3], mien});
        return seen.size();
    }

    private List<int[]> rows() {
        List<int[]> rows = new ArrayList<>();
        for (int number = 0; number < 1296; number++) {
            boolean so = true;
            for (int[] sight : seen) so &= mien(offs(row(number), sight, false), 0) == sight[4];
            if (so) rows.add(row(number));
        }
        return rows;
    }

    private int likings(int part, int what) {
        if (!in(part, 4) || !in(what, 3)) return BAD;
        List<int[]> rows = rows();
        if (what == 0) return rows.size();
        if (rows.isEmpty()) return NONE;
        return what == 1 ? rows.stream().mapToInt(r -> r[part]).min().getAsInt()
            : rows.stream().mapToInt(r -> r[part]).max().getAsInt();
    }

    private int ask() {
        List<int[]> rows = rows();
        if (rows.size() <= 1) return NONE;
        int best = -1;
        long least = Long.MAX_VALUE;
        for (int deed = 0; deed <= 5; deed++) {
            int[] pot = behind(view.pot, deed);
            long most = 0;
            for (int mien = 0; mien < 9; mien++) {
                int wanted = mien;
                most = Math.max(most, rows.stream().filter(r -> mien(offs(r, pot, false), 0) == wanted).count());
            }
            if (most < least) {
                least = most;
                best = deed;
            }
        }
        return best;
    }

    // ---- kinds, images

    private int rate(int kind, int b) {
        if (!in(kind, 6) || !in(b, brothers.size())) return NO;
        int mind = brother(b, 7);
        int blunt = brother(b, 4);
        int mien = brother(b, 6);
        trace += new int[] {1, 11, 101, 1011, 10101, 100001}[kind];
        return new int[] {mind, mind + blunt, mind - mien, 2 * (mind + blunt), mind - mien + b, mind + now(2)}[kind];
    }

    private int keep(int image) {
        if (!in(image, 2)) return BAD;
        images[image] = view.copy();
        return Integer.bitCount(now(0));
    }

    private int back(int image) {
        if (!in(image, 2)) return BAD;
        if (images[image] == null) return STATE;
        view = images[image].copy();
        past.clear();
        return Integer.bitCount(now(0));
    }
}
