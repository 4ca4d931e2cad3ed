import java.util.function.Supplier;

/** The text and what it tells, at the last value that may be and at the first that may not (promises 1 to 4). */
public final class TextBoundsTest {
    private static final String THING = "t1 1 1 1;";
    private static final String SEVEN = THING.repeat(7);

    private static final Due due = new Due("TextBoundsTest");

    public static void main(String[] args) {
        nothingTold();
        letters();
        letterRefused();
        fullText();
        fullTextRefused();
        cleared();
        noItems();
        sevenThings();
        onceAtMost();
        thingNumbers();
        vowNumber();
        warNumbers();
        numberForms();
        tokensInPlace();
        endsTooEarly();
        everyLetterAheadOfAnItem();
        everyLetterBehindANumber();
        everyLetterForTheEnd();
        firstFaultCounts();
        faultyTextStays();
        faultyTextIsForgotten();
        readAnew();
        anewWithoutVowAndWar();
        due.end();
    }

    /** A house in which all that can be is otherwise than at first. */
    private static FirstOut lived() {
        FirstOut x = Due.told("t1 7 3 0;t2 8 2 1;v1;w4 3 250;");
        x.rate(3, 1);
        x.keep(0);
        x.day(0);
        x.keep(1);
        x.saw(0, 1);
        x.swears(2);
        x.keepsIn(1, 1);
        x.tells(0, 1);
        return x;
    }

    private static void reads(String why, String text, int items) {
        FirstOut x = lived();
        Due.type(x, text);
        due.is("4: " + why + ": '" + text + "'", x.house(), items);
        due.is("4: " + why + ": the text is empty then", x.count(5), 0);
    }

    private static void faultAt(String why, String text, int place) {
        Supplier<FirstOut> scene = () -> {
            FirstOut x = lived();
            Due.type(x, text);
            return x;
        };
        Whole.stays(due, "4: " + why + ": '" + text + "'", scene, FirstOut::house, -10 - place);
        FirstOut x = scene.get();
        x.house();
        due.is("4: " + why + ": letters stay", x.count(5), text.length());
    }

    /** "As told; no THINGS", and what each question answers then. */
    private static void nothingTold() {
        for (String text : new String[] {null, "", "  "}) {
            FirstOut x = text == null ? new FirstOut() : Due.told(text);
            long[] got = {
                x.count(0), x.count(1), x.count(2), x.count(3), x.count(4), x.count(5), x.now(0), x.now(1), x.now(2),
                x.now(3), x.now(4), x.now(5), x.now(6), x.harm(0), x.harm(1), x.swear(0), x.swear(1), x.sense(0),
                x.sense(5), x.both(0), x.both(31), x.means(0), x.span(), x.shut(0, 0), x.shut(7, 0), x.shut(7, 1),
                x.shut(7, 2), x.tell(), x.fit(0), x.fit(1), x.fit(2), x.lost(0, 7), x.trace(), x.clear(),
                x.forget(), x.undo(), x.back(0), x.back(1), x.swears(31), x.keep(0), x.day(9999)};
            long[] want = {
                0, 5, 0, 100, 0, 0, 0, 0, 0,
                0, 0, 0, 0, 0, 1, 0, 1, 0,
                0, 0, 0, -9, -9, 0, 0, 0,
                1, 0, 32, 0, 0, 0, 0, 0,
                0, -2, -2, -2, 0, 0, -9};
            for (int i = 0; i < want.length; i++) {
                due.is("1: of nothing told, answer " + i, got[i], want[i]);
            }
        }
    }

    /** "A letter (0 .. 255)": each of them comes to the text. */
    private static void letters() {
        for (int letter = 0; letter < 256; letter++) {
            due.is("2: type(" + letter + ")", new FirstOut().type(letter), 1);
        }
    }

    private static void letterRefused() {
        int[] wrong = {-1, 256, Integer.MIN_VALUE, Integer.MAX_VALUE, 't' + 256, 't' - 256, 't' + 65536};
        for (int letter : wrong) {
            Whole.stays(due, "2: type(" + letter + ")", TextBoundsTest::lived, x -> x.type(letter), FirstOut.BAD);
        }
    }

    /** "200 letters at most": the 200th counts, be it the one that ends the last item. */
    private static void fullText() {
        FirstOut x = new FirstOut();
        String text = SEVEN + "v31;" + " ".repeat(123) + "w3 4 999 ;";
        for (int i = 0; i < 198; i++) {
            x.type(text.charAt(i));
        }
        due.is("2: the 199th letter", x.type(text.charAt(198)), 199);
        due.is("4: house() of 199 letters, the end is wanting", x.house(), -209);
        due.is("2: the 200th letter", x.type(';'), 200);
        due.is("2: the 201st letter", x.type(';'), FirstOut.FULL);
        due.is("2: the 202nd letter", x.type(';'), FirstOut.FULL);
        due.is("29: letters", x.count(5), 200);
        due.is("4: house() of 200 letters", x.house(), 9);
        due.is("29: WORTH", x.count(3), 999);
        due.is("2: a letter behind house()", x.type('v'), 1);
    }

    private static FirstOut fullOfVow() {
        FirstOut x = Due.told("t1 7 3 0;");
        Due.type(x, "v1;" + " ".repeat(194) + "w1 ");
        return x;
    }

    /** BAD comes ahead of FULL; neither changes anything. */
    private static void fullTextRefused() {
        Whole.stays(due, "2: type(32) at 200", TextBoundsTest::fullOfVow, x -> x.type(32), FirstOut.FULL);
        Whole.stays(due, "2: type(255) at 200", TextBoundsTest::fullOfVow, x -> x.type(255), FirstOut.FULL);
        Whole.stays(due, "2: type(-1) at 200", TextBoundsTest::fullOfVow, x -> x.type(-1), FirstOut.BAD);
        Whole.stays(due, "2: type(256) at 200", TextBoundsTest::fullOfVow, x -> x.type(256), FirstOut.BAD);
        FirstOut x = fullOfVow();
        due.is("4: house() of 200 letters that end too early", x.house(), -210);
        due.is("2: type(32) behind the fault", x.type(32), FirstOut.FULL);
    }

    private static void cleared() {
        due.is("3: clear() of a new one", new FirstOut().clear(), 0);
        Whole.stays(due, "3: clear() of none", TextBoundsTest::lived, FirstOut::clear, 0);
        FirstOut full = fullOfVow();
        due.is("3: clear() of 200", full.clear(), 200);
        due.is("3: clear() again", full.clear(), 0);
        due.is("3: nothing else changes", Whole.of(full), Whole.of(Due.told("t1 7 3 0;")));
        FirstOut x = fullOfVow();
        x.clear();
        due.is("2: type behind clear()", x.type('v'), 1);
        due.is("4: what was cleared is not read", x.house(), -11);
    }

    private static void noItems() {
        reads("an empty text tells of nothing", "", 0);
        reads("blanks alone", " ", 0);
        reads("blanks alone", " ".repeat(200), 0);
        FirstOut x = lived();
        x.house();
        due.is("4: THINGS behind an empty text", x.count(0), 0);
        due.is("4: ODDS, HELP, WORTH behind an empty text", x.count(1) + 1000 * x.count(2) + x.count(3), 105);
        due.is("4: thing(0, 0) behind an empty text", x.thing(0, 0), FirstOut.BAD);
    }

    /** "THINGS (7 at most)", "an eighth t". */
    private static void sevenThings() {
        for (int n = 0; n <= 7; n++) {
            FirstOut x = Due.told(THING.repeat(n));
            due.is("29: THINGS of " + n, x.count(0), n);
            due.is("5: the first that is not there of " + n, x.thing(n, 1), FirstOut.BAD);
            due.is("5: the last that is there of " + n, n == 0 ? 1 : x.thing(n - 1, 1), 1);
        }
        reads("seven things", SEVEN, 7);
        reads("seven things, vow and war: the most items", SEVEN + "v1;w1 1 1;", 9);
        reads("vow and war ahead of seven", "w1 1 1;v1;" + SEVEN, 9);
        faultAt("an eighth t", SEVEN + "t", 63);
        faultAt("an eighth t, whole", SEVEN + THING, 63);
        faultAt("an eighth t behind blanks", SEVEN + "  t1 1 1 1;", 65);
        faultAt("an eighth t behind the vow", SEVEN + "v1;t", 66);
    }

    /** "once at most each". */
    private static void onceAtMost() {
        reads("no vow, no war", THING, 1);
        reads("v once", "v1;", 1);
        reads("w once", "w1 1 1;", 1);
        reads("each once", "v1;w1 1 1;", 2);
        faultAt("v again", "v1;v", 3);
        faultAt("v again, the same", "v1;v1;", 3);
        faultAt("v again, behind others", "v1;" + THING + "w1 1 1; v2;", 20);
        faultAt("w again", "w1 1 1;w", 7);
        faultAt("w again, the same", "w1 1 1;w1 1 1;", 7);
        faultAt("w again, behind others", "w1 1 1;v1;" + THING + " w", 20);
        FirstOut x = lived();
        Due.type(x, "v1;w1 1 1;");
        x.house();
        Due.type(x, "v2;w2 2 2;");
        due.is("4: each once in the next text, too", x.house(), 2);
        due.is("6: WORDS of the next text", x.now(1), 2);
    }

    private static void thingNumbers() {
        FirstOut least = Due.told("t0 0 0 0;");
        FirstOut most = Due.told("t31 99 9 1;");
        int[] mosts = {31, 99, 9, 1};
        for (int what = 0; what < 4; what++) {
            due.is("5: the least number " + what, least.thing(0, what), 0);
            due.is("5: the largest number " + what, most.thing(0, what), mosts[what]);
        }
        faultAt("TRAITS 32", "t32 99 9 1;", 1);
        faultAt("DEAR 100", "t31 100 9 1;", 4);
        faultAt("EAGER 10", "t31 99 10 1;", 7);
        faultAt("KNOWS 2", "t31 99 9 2;", 9);
        faultAt("TRAITS 32, blanks ahead", "  t  32 99 9 1;", 5);
        faultAt("KNOWS 2 of a seventh", THING.repeat(6) + "t31 99 9 2;", 63);
    }

    private static void vowNumber() {
        due.is("6: WORDS 0", Due.told("v0;").now(1), 0);
        due.is("6: WORDS 31", Due.told("v31;").now(1), 31);
        faultAt("WORDS 32", "v32;", 1);
        faultAt("WORDS 999", "v 999;", 2);
    }

    /** "HELP of a vow (0 .. 10, together with ODDS 10 at most)": for each of the ODDS there are. */
    private static void warNumbers() {
        for (int odds = 0; odds <= 10; odds++) {
            FirstOut x = Due.told("w" + odds + " " + (10 - odds) + " 0;");
            due.is("29: ODDS " + odds, x.count(1), odds);
            due.is("29: HELP with " + odds, x.count(2), 10 - odds);
            due.is("29: HELP 0 with " + odds, Due.told("w" + odds + " 0 0;").count(2), 0);
            faultAt("HELP too large", "w" + odds + " " + (11 - odds) + " 0;", odds < 10 ? 3 : 4);
        }
        faultAt("ODDS 11", "w11 0 0;", 1);
        faultAt("HELP 11", "w0 11 0;", 3);
        due.is("29: WORTH 0", Due.told("w0 0 0;").count(3), 0);
        due.is("29: WORTH 999", Due.told("w0 0 999;").count(3), 999);
        faultAt("WORTH 1000", "w0 0 1000;", 5);
    }

    /** "a NUMBER above 999 or with a 0 ahead of others": at its first letter. */
    private static void numberForms() {
        reads("0 by itself", "t0 0 0 0;v0;w0 0 0;", 3);
        faultAt("0 ahead of 0", "t00 1 1 1;", 1);
        faultAt("0 ahead of another", "t01 1 1 1;", 1);
        faultAt("0 ahead of DEAR", "t1 099 1 1;", 3);
        faultAt("0 ahead of WORTH", "w1 1 0999;", 5);
        faultAt("000", "w1 1 000;", 5);
        reads("999", "w1 1 999;", 1);
        faultAt("1000", "w1 1 1000;", 5);
        faultAt("9999999999", "w1 1 9999999999;", 5);
        faultAt("2 to the 32nd and 1", "w1 1 4294967297;", 5);
        faultAt("2 to the 64th and 1", "w1 1 18446744073709551617;", 5);
        faultAt("1000 where no number stands", "1000", 0);
        faultAt("1000 where an item ends", "v1 1000;", 3);
        faultAt("01 where an item ends", "v1 01;", 3);
        faultAt("a long number up to the text's end", "w1 1 " + "9".repeat(100), 5);
    }

    /** "the first TOKEN that can't stand there": each kind of token in each kind of place. */
    private static void tokensInPlace() {
        faultAt("; ahead of an item", ";", 0);
        faultAt("a number ahead of an item", "7", 0);
        faultAt("; behind an item", THING + ";", 9);
        for (String stands : new String[] {"t", "t1 ", "t1 1 ", "t1 1 1 ", "v", "w", "w1 ", "w1 1 "}) {
            for (String token : new String[] {"t", "v", "w", ";"}) {
                faultAt("for a number " + token, stands + token, stands.length());
            }
        }
        for (String stands : new String[] {"t1 1 1 1 ", "v1 ", "w1 1 1 "}) {
            for (String token : new String[] {"t", "v", "w", "0", "1", "999"}) {
                faultAt("for ; " + token, stands + token, stands.length());
            }
        }
        reads("tokens without blanks where they are apart", "t1 1 1 1;v1;w1 1 1;", 3);
        reads("blanks between all tokens, ahead and behind", "  t  1  1  1  1  ;  v  1  ;  w  1  1  1  ;  ", 3);
        faultAt("a blank makes two numbers", "v1 1;", 3);
        faultAt("no blank makes one number", "t111 1 1;", 1);
    }

    /** "the text's length, if it ends too early": behind each token that is not an item's last. */
    private static void endsTooEarly() {
        for (String whole : new String[] {"t 1 1 1 1 ;", "v 1 ;", "w 1 1 1 ;"}) {
            for (int length = 1; length < whole.length(); length++) {
                faultAt("ends too early", whole.substring(0, length), length);
                faultAt("ends too early, behind an item", THING + whole.substring(0, length), 9 + length);
            }
        }
        faultAt("ends too early at the 200th letter", " ".repeat(199) + "t", 200);
        faultAt("ends too early at the 200th letter", " ".repeat(197) + "v31", 200);
    }

    private static void everyLetterAheadOfAnItem() {
        for (int letter = 0; letter < 256; letter++) {
            FirstOut x = new FirstOut();
            x.type(letter);
            boolean begins = letter == 't' || letter == 'v' || letter == 'w';
            due.is("4: letter " + letter + " alone", x.house(), letter == ' ' ? 0 : begins ? -11 : -10);
        }
    }

    private static void everyLetterBehindANumber() {
        for (int letter = 0; letter < 256; letter++) {
            FirstOut x = new FirstOut();
            Due.type(x, "t3");
            x.type(letter);
            boolean goesOn = letter == ' ' || letter == '0' || letter == '1';
            boolean tooLarge = letter >= '2' && letter <= '9';
            due.is("4: letter " + letter + " behind t3", x.house(), goesOn ? -13 : tooLarge ? -11 : -12);
        }
    }

    private static void everyLetterForTheEnd() {
        for (int letter = 0; letter < 256; letter++) {
            FirstOut x = new FirstOut();
            Due.type(x, "v1 ");
            x.type(letter);
            due.is("4: letter " + letter + " for ;", x.house(), letter == ';' ? 1 : letter == ' ' ? -14 : -13);
        }
    }

    private static void firstFaultCounts() {
        faultAt("of two faults the first", "t32 100 10 2;", 1);
        faultAt("of two faults the first", "t31 100 10 2;", 4);
        faultAt("a token out of place ahead of another letter", "v1 t ?", 3);
        faultAt("another letter ahead of a token out of place", "v1 ? t", 3);
        faultAt("a number too large ahead of an end too early", "w11", 1);
        faultAt("an eighth t ahead of its numbers", SEVEN + "t32", 63);
        faultAt("v again ahead of its number", "v1;v32;", 3);
    }

    /** "nothing changes": the text, too, which may be told on. */
    private static void faultyTextStays() {
        FirstOut x = lived();
        Due.type(x, "v9");
        due.is("4: house() that ends too early", x.house(), -12);
        due.is("4: house() again", x.house(), -12);
        due.is("2: told on", x.type(';'), 3);
        due.is("4: house() of the whole", x.house(), 1);
        due.is("6: WORDS", x.now(1), 9);
    }

    /** What stands ahead of a FAULT is not in the next text, nor is what stood in the text before that. */
    private static void faultyTextIsForgotten() {
        FirstOut x = lived();
        Due.type(x, "t1 1 1 1;v9;w1 1 1;?");
        due.is("4: a fault behind items", x.house(), -29);
        x.clear();
        asAtFirst(x);
        Due.type(x, "t1 1 1 1;v9;w1 1 1;");
        due.is("4: the items without the fault", x.house(), 3);
        asAtFirst(x);
        asAtFirst(x);
    }

    private static void asAtFirst(FirstOut x) {
        Due.type(x, "t2 3 4 0;");
        due.is("4: a thing alone", x.house(), 1);
        due.is("5: TRAITS", x.thing(0, 0), 2);
        due.is("5: KNOWS", x.thing(0, 3), 0);
        due.is("6: WORDS", x.now(1), 0);
        due.is("29: ODDS", x.count(1), 5);
        due.is("29: HELP", x.count(2), 0);
        due.is("29: WORTH", x.count(3), 100);
    }

    /** "Read anew: as told, DAY 0, nothing GIVEN up, SEEN, IMAGES are gone." */
    private static void readAnew() {
        String text = "t1 7 3 1;t2 8 2 0;v2;w1 2 3;";
        FirstOut x = lived();
        due.is("6: DAY before", x.now(0), 1);
        due.is("6: GIVEN up before", x.now(4), 1);
        due.is("29: SEEN before", x.count(4), 1);
        Due.type(x, text);
        due.is("4: house()", x.house(), 4);
        due.is("30: THE TRACE stays", x.trace(), 1011);
        FirstOut fresh = new FirstOut();
        Due.type(fresh, text);
        fresh.house();
        fresh.rate(3, 0);
        due.is("4: read anew all is as with a new one", Whole.of(x), Whole.of(fresh));
    }

    /** What a text does not tell is as at first, not as it was. */
    private static void anewWithoutVowAndWar() {
        FirstOut x = lived();
        Due.type(x, "t4 1 1 0;");
        due.is("4: house() of one thing", x.house(), 1);
        int[] counts = {1, 5, 0, 100, 0, 0};
        for (int what = 0; what < counts.length; what++) {
            due.is("29: count(" + what + ") anew", x.count(what), counts[what]);
        }
        int[] nows = {0, 0, 1, 1, 0, 0, 0};
        for (int what = 0; what < nows.length; what++) {
            due.is("6: now(" + what + ") anew", x.now(what), nows[what]);
        }
        due.is("11: undo() anew", x.undo(), FirstOut.STATE);
        due.is("28: back(0) anew", x.back(0), FirstOut.STATE);
        due.is("28: back(1) anew", x.back(1), FirstOut.STATE);
        due.is("22: forget() anew", x.forget(), 0);
    }
}
