/** The edges of promises 1 to 4 (a new object, type, clear, kitchen), a sentence of the document a test. */
public final class TextEdgesTest {
    private static final String SIX = "b0 0 0 0 0 0;".repeat(6);
    private static final int[] MOST = {5, 5, 5, 5, 2, 1};

    private static void reads(String letters, int want) {
        new Run().typed(letters).go("kitchen()=" + want);
    }

    private static void faultAt(String letters, int place) {
        reads(letters, -10 - place);
    }

    // ---- promise 1

    /** "As told; no BROTHERS." */
    private static void aNewObjectHasNoBrothers() {
        new Run().go("count(0)=0 brother(0, 0)=BAD brother(0, 8)=BAD off(0, 0)=NO sends(0)=BAD colds(0, 1)=BAD"
            + " colds(0, 0)=BAD rate(0, 0)=NO plan(1, -1)=BAD now(0)=0 now(1)=0 now(3)=0 keep(0)=0");
    }

    /** "THE POT: how much there is of each PART (0 .. 5; 0 at first)." */
    private static void aNewPotIsEmpty() {
        new Run().go("pot(0)=0 pot(1)=0 pot(2)=0 pot(3)=0 now(2)=0 waters()=STATE");
    }

    /** Nothing was done, kept, seen or typed ahead of the first call. */
    private static void aNewObjectHasNoPast() {
        new Run().go("now(4)=0 undo()=STATE back(0)=STATE back(1)=STATE count(1)=0 forget()=0 count(2)=0 clear()=0");
    }

    /** "THE TRACE, 0 at first". */
    private static void aNewTraceIsNothing() {
        new Run().go("trace()=0");
    }

    // ---- promise 2

    /** "A letter (0 .. 255) comes to THE TEXT": the first and the last. */
    private static void firstAndLastLetter() {
        new Run().go("type(0)=1 type(255)=2 type(1)=3 type(254)=4 count(2)=4");
    }

    /** "BAD": a letter below 0 or above 255, in any state; nothing has changed. */
    private static void noSuchLetter() {
        Place.unchangedEverywhere(Place.outside("type(#)", 0, 255, "BAD"));
    }

    /** "a text (120 letters at most)": the last that is allowed, and one more. */
    private static void theLastLetterAndOneMore() {
        new Run().typed("x".repeat(118)).go("type(32)=119 type(32)=120 type(32)=FULL count(2)=120");
    }

    /** "FULL": whatever the letter is; nothing has changed. */
    private static void aFullTextTakesNothing() {
        Place.BRIM.unchangedBy("type(0)=FULL type(32)=FULL type(98)=FULL type(59)=FULL type(255)=FULL");
    }

    /** "the first of these: BAD .. FULL". */
    private static void badComesAheadOfFull() {
        Place.BRIM.unchangedBy("type(-1)=BAD type(256)=BAD type(MIN)=BAD type(MAX)=BAD type(255)=FULL");
    }

    // ---- promise 3

    /** "THE TEXT is empty: how many letters it had": none, one, all. */
    private static void clearing() {
        new Run().go("clear()=0 clear()=0 type(0)=1 clear()=1 count(2)=0 clear()=0");
        new Run().typed("b".repeat(120)).go("clear()=120 count(2)=0 clear()=0 type(255)=1 clear()=1");
    }

    /** What was cleared is not read any more, and there is room for as many letters again. */
    private static void clearedLettersAreGone() {
        new Run().typed("b1 1 1 1 1 1;").go("clear()=13 kitchen()=0 count(0)=0");
        new Run().typed("x".repeat(120)).go("clear()=120").typed(" ".repeat(107) + "b1 1 1 1 1 1;")
            .go("count(2)=120 type(32)=FULL kitchen()=1");
        new Run().typed("b1 1 1 1 1 1;").go("clear()").typed("p1").go("kitchen()=-12 count(2)=2");
    }

    /** Nothing but THE TEXT is cleared. */
    private static void clearingChangesNothingElse() {
        for (Place place : Place.ALL) {
            Place without = place.with("");
            Check.holds("clear() changes the text alone", place.looks("clear()").equals(without.looks("")));
            without.unchangedBy("clear()=0 clear()=0");
        }
    }

    // ---- promise 4: items

    /** "ITEMS (none, too)": an empty text, and one of blanks alone, up to 120. */
    private static void noItems() {
        reads("", 0);
        reads(" ", 0);
        reads(" ".repeat(119), 0);
        reads(" ".repeat(120), 0);
    }

    /** An empty text tells all anew, too: behind it the object is as a new one. */
    private static void anEmptyTextTellsNothing() {
        Check.holds("as new", Place.BUSY.with("").looks("kitchen()=0").equals(Place.NEW.looks("")));
        Check.holds("as new", Place.BUSY.looks("clear() kitchen()=0").equals(Place.NEW.looks("")));
        Check.holds("as new", Place.EMPTY.looks("type(32) kitchen()=0").equals(Place.NEW.looks("")));
        Place.NEW.unchangedBy("kitchen()=0 kitchen()=0");
    }

    /** "how many ITEMS": none to seven, in any order. */
    private static void howManyItems() {
        for (int items = 0; items <= 6; items++) {
            reads("b0 0 0 0 0 0;".repeat(items), items);
            reads("b0 0 0 0 0 0;".repeat(items) + "p0 0 0 0;", items + 1);
            reads("p5 5 5 5;" + "b5 5 5 5 2 1;".repeat(items), items + 1);
        }
    }

    /** "and is empty then": behind a text that was read there is room for 120 letters again. */
    private static void aTextThatWasReadIsEmpty() {
        Run.told("p1 1 1 1;").go("count(2)=0 clear()=0");
        Run.told(" ".repeat(111) + "p1 1 1 1;").typed("p2 2 2 2;").go("count(2)=9 kitchen()=1 pot(0)=2 count(2)=0")
            .typed(" ".repeat(119)).go("type(32)=120 type(32)=FULL kitchen()=0 pot(0)=0 count(2)=0");
    }

    /** "(120 letters at most)": the 120th letter is read, too. */
    private static void theLastLetterIsRead() {
        String long119 = " ".repeat(107) + "b5 4 3 2 1 0";
        faultAt(long119, 119);
        new Run().typed(long119 + ";").go("count(2)=120 kitchen()=1 brother(0, 0)=5 brother(0, 4)=1 brother(0, 5)=0");
        faultAt(long119 + "0", 118);
        faultAt(long119 + "x", 119);
        faultAt(long119 + " ", 120);
        faultAt("p" + " ".repeat(119), 120);
        faultAt(" ".repeat(119) + "p", 120);
        faultAt(" ".repeat(119) + ";", 119);
    }

    /** "BROTHERS 0 .. (6 at most)": six, and "a seventh b". */
    private static void sixBrothersAtMost() {
        Run.told(SIX).go("count(0)=6 brother(5, 0)=0 brother(6, 0)=BAD");
        faultAt(SIX + "b", 78);
        faultAt(SIX + "b0 0 0 0 0 0;", 78);
        faultAt(SIX + "  b0 0 0 0 0 0;", 80);
        faultAt(SIX + "p0 0 0 0;b0 0 0 0 0 0;", 87);
        faultAt("p0 0 0 0;" + SIX + "b9", 87);
    }

    /** "the next BROTHER": they are numbered as they come, THE POT between them or not. */
    private static void brothersInTheirOrder() {
        Run.told("b1 0 0 0 0 0;b2 0 0 0 0 0;p5 5 5 5;b3 0 0 0 0 0;b4 0 0 0 0 1;b5 0 0 0 1 0;b0 0 0 5 2 0;")
            .go("brother(0, 0)=1 brother(1, 0)=2 brother(2, 0)=3 brother(3, 0)=4 brother(4, 0)=5 brother(5, 0)=0"
                + " brother(5, 3)=5 brother(5, 4)=2 brother(4, 4)=1 now(1)=8");
    }

    /** "p and four (THE POT; once at most)": not at all, once, "p again". */
    private static void thePotOnceAtMost() {
        Run.told("b1 1 1 1 1 1;").go("now(2)=0");
        Run.told("p5 5 5 5;").go("now(2)=20");
        faultAt("p0 0 0 0;p", 9);
        faultAt("p0 0 0 0;p0 0 0 0;", 9);
        faultAt("p0 0 0 0; p0 0 0 0;", 10);
        faultAt("p0 0 0 0;b0 0 0 0 0 0;p0 0 0 0;", 22);
        faultAt("p1 1 1 1;" + SIX + "p0 0 0 0;", 87);
    }

    // ---- promise 4: numbers

    private static String item(char kind, int index, String word) {
        StringBuilder item = new StringBuilder().append(kind);
        int numbers = kind == 'b' ? 6 : 4;
        for (int i = 0; i < numbers; i++) {
            item.append(i == index ? word : "0").append(i == numbers - 1 ? ';' : ' ');
        }
        return item.toString();
    }

    /** "LIKES (0 .. 5), BLUNT (0 .. 2), COLD at first (1) or not (0)": the least and the greatest of each. */
    private static void theGreatestOfEachNumber() {
        for (int index = 0; index < 6; index++) {
            for (int number = 0; number <= MOST[index]; number++) {
                Run.told(item('b', index, "" + number)).go("brother(0, " + index + ")=" + number);
            }
        }
        for (int part = 0; part < 4; part++) {
            for (int number = 0; number <= 5; number++) {
                Run.told(item('p', part, "" + number)).go("pot(" + part + ")=" + number + " now(2)=" + number);
            }
        }
    }

    /** "a NUMBER beyond what it may be, too": one more than the greatest, and all up to 99. */
    private static void aNumberBeyondWhatItMayBe() {
        for (int index = 0; index < 6; index++) {
            for (int number = MOST[index] + 1; number <= 99; number++) {
                faultAt(item('b', index, "" + number), 1 + 2 * index);
            }
        }
        for (int part = 0; part < 4; part++) {
            for (int number = 6; number <= 99; number++) {
                faultAt(item('p', part, "" + number), 1 + 2 * part);
            }
        }
    }

    /** "a NUMBER above 99": 100, and those that wrap around to one that is allowed. */
    private static void aNumberAbove99() {
        String[] words = {"100", "101", "256", "257", "999", "65536", "65537", "2147483647", "2147483648", "4294967295",
            "4294967296", "4294967297", "18446744073709551616", "18446744073709551617", "1" + "0".repeat(90)};
        for (String word : words) {
            for (int index = 0; index < 6; index++) {
                faultAt(item('b', index, word), 1 + 2 * index);
            }
            for (int part = 0; part < 4; part++) {
                faultAt(item('p', part, word), 1 + 2 * part);
            }
            faultAt(word, 0);
        }
        faultAt("9".repeat(120), 0);
        faultAt("p" + "1".repeat(119), 1);
    }

    /** "or with a 0 ahead of others": not a 0 alone. */
    private static void aNumberWithAZeroAhead() {
        reads("p0 0 0 0;", 1);
        for (String word : new String[] {"00", "01", "05", "09", "000", "001", "0".repeat(100)}) {
            for (int index = 0; index < 6; index++) {
                faultAt(item('b', index, word), 1 + 2 * index);
            }
            for (int part = 0; part < 4; part++) {
                faultAt(item('p', part, word), 1 + 2 * part);
            }
        }
        faultAt("p" + "0".repeat(119), 1);
    }

    /** "the place of the first letter of" that TOKEN: blanks ahead of a NUMBER are none of it. */
    private static void thePlaceOfANumber() {
        faultAt("p   6 0 0 0;", 4);
        faultAt("p   12 0 0 0;", 4);
        faultAt("p   007 0 0 0;", 4);
        faultAt("  p0 0  100", 8);
        faultAt("123", 0);
        faultAt("  00", 2);
    }

    // ---- promise 4: blanks

    /** "blanks (32), any number, ahead of, between, behind TOKENS". */
    private static void blanksAnywhere() {
        reads("     p0 0 0 0;", 1);
        reads("p     0 0 0 0;", 1);
        reads("p0     0    0   0;", 1);
        reads("p0 0 0 0     ;", 1);
        reads("p0 0 0 0;     ", 1);
        reads("p0 0 0 0;     b0 0 0 0 0 0;", 2);
        reads("p0" + " ".repeat(112) + "0 0 0;", 1);
    }

    /** "(needed only between two NUMBERS)". */
    private static void blanksThatAreNeeded() {
        reads("b0 0 0 0 0 0;p1 2 3 4;b5 5 5 5 2 1;", 3);
        faultAt("p10 0 0;", 1);
        faultAt("p0 00 0;", 3);
        faultAt("p0 0 00;", 5);
        faultAt("p0000;", 1);
        faultAt("b0 0 0 0 00;", 9);
    }

    /** A blank is 32 alone. */
    private static void otherWhiteLetters() {
        for (char letter : new char[] {0, 9, 10, 11, 12, 13, 31, 33, 95, 160}) {
            faultAt("" + letter, 0);
            faultAt("p0" + letter + "0 0 0;", 2);
            faultAt("p0 0 0 0;" + letter, 9);
        }
    }

    // ---- promise 4: faults

    private static boolean isOther(int letter) {
        return letter != 'b' && letter != 'p' && letter != ';' && letter != ' ' && (letter < '0' || letter > '9');
    }

    /** "of any other letter .. that TOKEN's": every letter, wherever it stands. */
    private static void anyOtherLetter() {
        String brother = "b0 0 0 0 0 0;";
        String pot = "p0 0 0 0;";
        for (int letter = 0; letter < 256; letter++) {
            if (isOther(letter)) {
                for (int place = 0; place <= brother.length(); place++) {
                    faultAt(brother.substring(0, place) + (char) letter + brother.substring(place), place);
                }
                for (int place = 0; place <= pot.length(); place++) {
                    faultAt(pot.substring(0, place) + (char) letter + pot.substring(place), place);
                }
            }
        }
    }

    /** "the first TOKEN that can't stand there": b, p, ; in the midst of an ITEM. */
    private static void aTokenInTheMidst() {
        String brother = "b0 0 0 0 0 0;";
        for (char letter : new char[] {'b', 'p', ';'}) {
            for (int place = 1; place < brother.length() - 1; place++) {
                faultAt(brother.substring(0, place) + letter + brother.substring(place), place);
            }
        }
        faultAt("b0 0 0 0 0 0b;", 12);
        faultAt("b0 0 0 0 0 0p;", 12);
    }

    /** An ITEM begins with b or p alone, at the front and behind a ; . */
    private static void whatNoItemBeginsWith() {
        for (String word : new String[] {";", "0", "5", "9", "99", "100", "01", "B", "P"}) {
            faultAt(word, 0);
            faultAt("   " + word, 3);
            faultAt("p0 0 0 0;" + word, 9);
            faultAt("b0 0 0 0 0 0; " + word, 14);
        }
    }

    /** One NUMBER too few, one too many. */
    private static void tooFewTooManyNumbers() {
        faultAt("b0 0 0 0 0;", 10);
        faultAt("b0 0 0 0 0 0 0;", 13);
        faultAt("p0 0 0;", 6);
        faultAt("p0 0 0 0 0;", 9);
        faultAt("b;", 1);
        faultAt("p;", 1);
        faultAt("b0 0 0 0;", 8);
        faultAt("p0 0 0 0 0 0;", 9);
    }

    /** "the first TOKEN": whatever is wrong behind it, of whatever kind, does not count. */
    private static void theFirstFaultCounts() {
        faultAt("p6 x", 1);
        faultAt("p 6 007 100 ;", 2);
        faultAt("p p $", 2);
        faultAt("; $", 0);
        faultAt("$ ;", 0);
        faultAt("p0 0 0 0;p $", 9);
        faultAt("p0 0 0 0 0 $", 9);
        faultAt("b0 0 0 0 3 2;", 9);
        faultAt("b0 0 0 0 0 2 $", 11);
        faultAt("7 " + "x".repeat(118), 0);
        faultAt("p0 x 6", 3);
        faultAt("p0 100 6", 3);
    }

    /** "the text's length, if it ends too early": behind every TOKEN of an ITEM, blanks counted. */
    private static void endsTooEarly() {
        endsTooEarly("p1 2 3 4;", "b5 4 3 2 1 0;");
        endsTooEarly("b5 4 3 2 1 0;  ", "p1 2 3 4;");
    }

    private static void endsTooEarly(String ahead, String item) {
        for (int length = 1; length < item.length(); length++) {
            String front = item.substring(0, length);
            faultAt(front, length);
            faultAt(front + "   ", length + 3);
            faultAt(ahead + front, ahead.length() + length);
        }
    }

    /** "the text's length, if it ends too early": letters that stood there in an earlier text, cleared or read, are none. */
    private static void earlierLettersDoNotGoOn() {
        for (String item : new String[] {"b5 4 3 2 1 0;", "p1 2 3 4;"}) {
            for (int length = 1; length <= item.length(); length++) {
                String front = item.substring(0, length);
                String due = "kitchen()=" + (length < item.length() ? -10 - length : 1);
                new Run().typed(item).go("clear()=" + item.length()).typed(front).go(due);
                Run.told(item).typed(front).go(due);
                for (String letter : new String[] {" ", "0", ";", "b", "p", "x"}) {
                    new Run().typed(letter.repeat(120)).go("clear()=120").typed(front).go(due);
                }
            }
        }
    }

    /** A TOKEN at the very end that can't stand there is a fault of its own, not an end. */
    private static void theLastTokenIsWrong() {
        faultAt("p0 0 0 6", 7);
        faultAt("p0 0 0 10", 7);
        faultAt("p0 0 0 0 0", 9);
        faultAt("b0 0 0 0 0 2", 11);
        faultAt("b0 0 0 0 3", 9);
        faultAt("bb", 1);
    }

    /** "-10 less FAULT": the least fault and the greatest. */
    private static void theLeastAndTheGreatestFault() {
        reads("x", -10);
        reads(" ".repeat(119) + "x", -129);
        reads(" ".repeat(119) + "b", -130);
    }

    /** "-10 less FAULT: nothing changes (THE TEXT stays, too)". */
    private static void aFaultChangesNothing() {
        String[] faulty = {"x", "b", "p9", "p1 1 1 1;p", "b1 1 1 1 1 1;b0 0 0 0 0 0;p3 3 3 3;;", SIX + "b0 0 0 0 0 0;",
            SIX + "p4 4 4 4" + " ".repeat(34), "b3 3 3 3 2 1;p00"};
        int[] answers = {-10, -11, -11, -19, -45, -88, -130, -24};
        for (int i = 0; i < faulty.length; i++) {
            for (Place place : Place.ALL) {
                place.with(faulty[i]).unchangedBy("kitchen()=" + answers[i] + " kitchen()=" + answers[i]);
            }
        }
    }

    /** THE TEXT stays letter by letter: it can be ended later, and tells then what was typed first. */
    private static void aTextWithAFaultCanBeEnded() {
        new Run().typed("b5 4 3 2 1 1;p1 2 3").go("kitchen()=-29 kitchen()=-29 count(2)=19 type(32)=20 kitchen()=-30")
            .typed("4;").go("count(2)=22 kitchen()=2 brother(0, 0)=5 brother(0, 3)=2 brother(0, 5)=1 pot(0)=1 pot(3)=4"
                + " count(2)=0");
    }

    // ---- promise 4: read anew

    /** A kitchen in which there is something of all that is forgotten. */
    private static Run busy() {
        return Run.told("b1 2 3 4 2 1;b0 0 0 0 0 1;b2 2 2 2 0 0;p5 4 3 2;")
            .go("sends(0) sends(1) sends(2) colds(2, 1) adds(3) sees(1) sees(2) keep(0) keep(1) rate(0, 0)");
    }

    /** "as told (what is not told as at first)". */
    private static void readAnewAsTold() {
        busy().typed("b3 3 3 3 1 0;").go("kitchen()=1 count(0)=1 now(2)=0 pot(0)=0 pot(3)=0 now(1)=0 brother(0, 0)=3"
            + " brother(0, 4)=1 brother(1, 0)=BAD brother(2, 0)=BAD");
        busy().typed("p1 0 0 5;").go("kitchen()=1 count(0)=0 now(2)=6 pot(0)=1 pot(1)=0 pot(2)=0 pot(3)=5 now(1)=0");
        busy().go("kitchen()=0 count(0)=0 now(2)=0 now(1)=0 now(3)=0");
    }

    /** A cold that came and went since counts no more: as told. */
    private static void readAnewColds() {
        busy().typed("b0 0 0 0 0 0;b0 0 0 0 0 1;b0 0 0 0 0 0;b0 0 0 0 0 0;").go("kitchen()=4 now(1)=2");
        busy().go("kitchen()=0").typed("b0 0 0 0 0 0;".repeat(3)).go("kitchen()=3 now(1)=0");
    }

    /** "nothing SHOWN". */
    private static void readAnewShown() {
        busy().typed(SIX).go("brother(0, 8)=1 brother(1, 8)=1 kitchen()=6 brother(0, 8)=NONE brother(1, 8)=NONE"
            + " brother(2, 8)=NONE brother(5, 8)=NONE");
    }

    /** "(nothing) SEEN". */
    private static void readAnewSeen() {
        busy().typed("p1 1 1 1;").go("count(1)=2 kitchen()=1 count(1)=0 forget()=0 likings(0, 0)=1296");
    }

    /** "IMAGES are gone". */
    private static void readAnewImages() {
        busy().typed("p1 1 1 1;").go("kitchen()=1 back(0)=STATE back(1)=STATE now(2)=4");
    }

    /** "nothing can be UNDONE". */
    private static void readAnewUndone() {
        busy().typed("p1 1 1 1;").go("now(4)=5 kitchen()=1 now(4)=0 undo()=STATE now(2)=4 adds(0)=2 undo()=0 pot(0)=1");
    }

    /** "THE TRACE goes on". */
    private static void readAnewTrace() {
        busy().typed("b1 1 1 1 0 0;").go("trace()=1 kitchen()=1 trace()=1 rate(1, 0) trace()=12 kitchen()=0 trace()=12");
    }

    private static void newObject() {
        aNewObjectHasNoBrothers();
        aNewPotIsEmpty();
        aNewObjectHasNoPast();
        aNewTraceIsNothing();
    }

    private static void typingAndClearing() {
        firstAndLastLetter();
        noSuchLetter();
        theLastLetterAndOneMore();
        aFullTextTakesNothing();
        badComesAheadOfFull();
        clearing();
        clearedLettersAreGone();
        clearingChangesNothingElse();
    }

    private static void items() {
        noItems();
        anEmptyTextTellsNothing();
        howManyItems();
        aTextThatWasReadIsEmpty();
        theLastLetterIsRead();
        sixBrothersAtMost();
        brothersInTheirOrder();
        thePotOnceAtMost();
    }

    private static void numbersAndBlanks() {
        theGreatestOfEachNumber();
        aNumberBeyondWhatItMayBe();
        aNumberAbove99();
        aNumberWithAZeroAhead();
        thePlaceOfANumber();
        blanksAnywhere();
        blanksThatAreNeeded();
        otherWhiteLetters();
    }

    private static void faults() {
        anyOtherLetter();
        aTokenInTheMidst();
        whatNoItemBeginsWith();
        tooFewTooManyNumbers();
        theFirstFaultCounts();
        endsTooEarly();
        earlierLettersDoNotGoOn();
        theLastTokenIsWrong();
        theLeastAndTheGreatestFault();
        aFaultChangesNothing();
        aTextWithAFaultCanBeEnded();
    }

    private static void readAnew() {
        readAnewAsTold();
        readAnewColds();
        readAnewShown();
        readAnewSeen();
        readAnewImages();
        readAnewUndone();
        readAnewTrace();
    }

    public static void main(String[] args) {
        newObject();
        typingAndClearing();
        items();
        numbersAndBlanks();
        faults();
        readAnew();
        Check.finish("TextEdgesTest");
    }
}
