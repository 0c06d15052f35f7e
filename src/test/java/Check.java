/** What all tests of the project share: it counts answers that are not the ones that are due. */
final class Check {
    private static int asked = 0;
    private static int wrong = 0;

    private Check() {
    }

    static void due(String call, long got, long want) {
        asked++;
        if (got != want) {
            wrong++;
            System.out.println(call + " answered " + got + ", due is " + want);
        }
    }

    static void holds(String what, boolean so) {
        due(what, so ? 1 : 0, 1);
    }

    static void types(TastelessCook cook, String letters) {
        for (int i = 0; i < letters.length(); i++) {
            cook.type(letters.charAt(i));
        }
    }

    /** A new object whose kitchen is told by a text that must be without fault. */
    static TastelessCook told(String letters) {
        TastelessCook cook = new TastelessCook();
        types(cook, letters);
        holds("kitchen of " + letters, cook.kitchen() >= 0);
        return cook;
    }

    static void finish(String test) {
        System.out.println(test + ": " + asked + " answers, " + wrong + " of them wrong");
        if (wrong != 0 || asked == 0) {
            System.exit(1);
        }
    }
}
