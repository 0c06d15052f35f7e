/** Promises 1 to 4: a new object, type, clear, kitchen. */
public final class TextTest {
    private static void newObject() {
        TastelessCook cook = new TastelessCook();
        for (int what = 0; what < 3; what++) {
            Check.due("new: count", cook.count(what), 0);
        }
        for (int what = 0; what < 5; what++) {
            Check.due("new: now", cook.now(what), 0);
        }
        for (int part = 0; part < 4; part++) {
            Check.due("new: pot", cook.pot(part), 0);
        }
        Check.due("new: brother", cook.brother(0, 0), TastelessCook.BAD);
        Check.due("new: undo", cook.undo(), TastelessCook.STATE);
        Check.due("new: back", cook.back(0), TastelessCook.STATE);
        Check.due("new: likings", cook.likings(0, 0), 1296);
        Check.due("new: trace", cook.trace(), 0);
        Check.due("new: clear", cook.clear(), 0);
        Check.due("new: kitchen", cook.kitchen(), 0);
    }

    private static void typing() {
        TastelessCook cook = new TastelessCook();
        Check.due("type(0)", cook.type(0), 1);
        Check.due("type(255)", cook.type(255), 2);
        Check.due("type(256)", cook.type(256), TastelessCook.BAD);
        Check.due("type(-1)", cook.type(-1), TastelessCook.BAD);
        Check.due("type least", cook.type(Integer.MIN_VALUE), TastelessCook.BAD);
        Check.due("type greatest", cook.type(Integer.MAX_VALUE), TastelessCook.BAD);
        Check.due("count(2)", cook.count(2), 2);
        for (int n = 3; n <= 120; n++) {
            Check.due("type", cook.type(' '), n);
        }
        Check.due("type in full", cook.type(' '), TastelessCook.FULL);
        Check.due("BAD ahead of FULL", cook.type(256), TastelessCook.BAD);
        Check.due("count(2) in full", cook.count(2), 120);
        Check.due("clear in full", cook.clear(), 120);
        Check.due("clear again", cook.clear(), 0);
        Check.due("type anew", cook.type(' '), 1);
    }

    private static void reads(String letters, int want) {
        TastelessCook cook = new TastelessCook();
        Check.types(cook, letters);
        Check.due("kitchen of '" + letters + "'", cook.kitchen(), want);
        Check.due("letters behind '" + letters + "'", cook.count(2), want < 0 ? letters.length() : 0);
    }

    private static void faultless() {
        reads("", 0);
        reads("    ", 0);
        reads("b0 0 0 0 0 0;", 1);
        reads("p5 5 5 5;", 1);
        reads("p0 0 0 0;b5 5 5 5 2 1;", 2);
        reads("  b  1 2   3 4 1 0  ;  p 0 1 2 3 ;  ", 2);
        String six = "b0 0 0 0 0 0;".repeat(6);
        reads(six, 6);
        reads(six + "p1 2 3 4;", 7);
        reads("b0 0 0 0 0 0;p1 2 3 4;b0 0 0 0 0 0;", 3);
        reads(" ".repeat(107) + "b0 0 0 0 0 0;", 1);
    }

    private static void faults() {
        reads("x", -10);
        reads("  x", -12);
        reads(";", -10);
        reads("7", -10);
        reads("B0 0 0 0 0 0;", -10);
        reads("b6 0 0 0 0 0;", -11);
        reads("b0 6 0 0 0 0;", -13);
        reads("b0 0 0 0 3 0;", -19);
        reads("b0 0 0 0 0 2;", -21);
        reads("b0 0 0 0 0 0 0;", -23);
        reads("b0 0 0 0 0;", -20);
        reads("b0 0 0 0;", -18);
        reads("b;", -11);
        reads("bb", -11);
        reads("bp", -11);
        reads("p0 0 0 6;", -17);
        reads("p0 0 0;", -16);
        reads("p0 0 0 0 0;", -19);
        reads("p0 0 0 0;p0 0 0 0;", -19);
        reads("p0 0 0 0; p", -20);
        reads("p-1 0 0 0;", -11);
        reads("p0,0 0 0;", -12);
        reads("p0 0 0 0;;", -19);
        reads("p0 0 0 0;5", -19);
        String six = "b0 0 0 0 0 0;".repeat(6);
        reads(six + "b0 0 0 0 0 0;", -88);
        reads(six + "p0 0 0 0; b", -98);
        // the first token that can't stand there counts, whatever comes behind it
        reads("p p $", -12);
        reads("p 6 007", -12);
    }

    private static void numbers() {
        reads("p00 0 0 0;", -11);
        reads("p01 0 0 0;", -11);
        reads("p0 05 0 0;", -13);
        reads("p10 0 0 0;", -11);
        reads("p99 0 0 0;", -11);
        reads("p100 0 0 0;", -11);
        reads("p0 0 0 99999999999999999999;", -17);
        reads("p0 0 0 12", -17);
        reads("p0000;", -11);
        for (int digit = 0; digit < 10; digit++) {
            reads("p0" + digit + " 0 0 0;", -11);
            reads("p1" + digit + " 0 0 0;", -11);
            reads("p0 0 0 0;0" + digit, -19);
        }
        reads("p0 0 0 0 0", -19);
    }

    /** Each number of each kind of item, up to its most and beyond. */
    private static void limits() {
        int[] most = {5, 5, 5, 5, 2, 1};
        for (int items = 4; items <= 6; items += 2) {
            for (int index = 0; index < items; index++) {
                for (int number = 0; number < 12; number++) {
                    StringBuilder text = new StringBuilder(items == 4 ? "p" : "b");
                    for (int i = 0; i < items; i++) {
                        text.append(i == index ? number : 0).append(i == items - 1 ? ';' : ' ');
                    }
                    reads(text.toString(), number <= most[index] ? 1 : -11 - 2 * index);
                }
            }
        }
    }

    private static void endsTooEarly() {
        reads("b", -11);
        reads("b   ", -14);
        reads("b1", -12);
        reads("b1 2 3 4 0 0", -22);
        reads("b1 2 3 4 0 0  ", -24);
        reads("p1 2 3 4", -18);
        reads("p1 2 3 4; b ", -22);
        reads("p" + " ".repeat(119), -130);
    }

    private static void allLettersButThose() {
        for (int letter = 0; letter < 256; letter++) {
            TastelessCook cook = new TastelessCook();
            cook.type(letter);
            int want = letter == ' ' ? 0 : letter == 'b' || letter == 'p' ? -11 : -10;
            Check.due("kitchen of letter " + letter, cook.kitchen(), want);
        }
    }

    private static void tellsAll() {
        TastelessCook cook = Check.told("b1 2 3 4 2 1;p5 4 3 2;b5 0 0 1 0 0;");
        int[][] want = {{1, 2, 3, 4, 2, 1}, {5, 0, 0, 1, 0, 0}};
        for (int b = 0; b < 2; b++) {
            for (int what = 0; what < 6; what++) {
                Check.due("brother(" + b + ", " + what + ")", cook.brother(b, what), want[b][what]);
            }
        }
        for (int part = 0; part < 4; part++) {
            Check.due("pot(" + part + ")", cook.pot(part), 5 - part);
        }
        Check.due("count(0)", cook.count(0), 2);
        Check.due("no third", cook.brother(2, 0), TastelessCook.BAD);
    }

    /** A kitchen in which all that can be forgotten is there. */
    private static TastelessCook busy() {
        TastelessCook cook = Check.told("b1 2 3 4 2 1;b0 0 0 0 0 1;p5 4 3 2;");
        cook.sends(0);
        cook.sends(1);
        cook.sees(1);
        cook.keep(0);
        cook.keep(1);
        cook.rate(0, 0);
        return cook;
    }

    private static void readAnew() {
        TastelessCook cook = busy();
        Check.types(cook, "b3 3 3 3 1 0;");
        Check.due("kitchen anew", cook.kitchen(), 1);
        Check.due("brothers", cook.count(0), 1);
        Check.due("seen", cook.count(1), 0);
        Check.due("text", cook.count(2), 0);
        Check.due("the pot is as at first", cook.now(2), 0);
        Check.due("colds", cook.now(1), 0);
        Check.due("undoable", cook.now(4), 0);
        Check.due("shown", cook.brother(0, 8), TastelessCook.NONE);
        Check.due("image 0", cook.back(0), TastelessCook.STATE);
        Check.due("image 1", cook.back(1), TastelessCook.STATE);
        Check.due("trace", cook.trace(), 1);
        Check.types(cook, "b0 0 0 0 0 0;b0 0 0 0 0 0;");
        cook.kitchen();
        Check.due("shown of the second", cook.brother(1, 8), TastelessCook.NONE);
        Check.due("cold of the second", cook.brother(1, 5), 0);
        Check.due("an empty text tells, too", cook.kitchen(), 0);
        Check.due("no brothers", cook.count(0), 0);
    }

    private static void faultChangesNothing() {
        TastelessCook cook = busy();
        Check.types(cook, "b3 3 3 3 1 0;p1 1 1 1;p");
        for (int n = 0; n < 2; n++) {
            Check.due("kitchen with a fault", cook.kitchen(), -32);
            Check.due("text", cook.count(2), 23);
            Check.due("brothers", cook.count(0), 2);
            Check.due("likes", cook.brother(0, 0), 1);
            Check.due("pot", cook.pot(0), 5);
            Check.due("colds", cook.now(1), 3);
            Check.due("undoable", cook.now(4), 2);
            Check.due("seen", cook.count(1), 1);
            Check.due("shown", cook.brother(0, 8), 1);
        }
        Check.due("image", cook.back(1), 0);
        Check.due("clear", cook.clear(), 23);
    }

    public static void main(String[] args) {
        newObject();
        typing();
        faultless();
        faults();
        numbers();
        limits();
        endsTooEarly();
        allLettersButThose();
        tellsAll();
        readAnew();
        faultChangesNothing();
        Check.finish("TextTest");
    }
}
