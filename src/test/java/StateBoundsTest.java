import java.util.function.Supplier;

/** What is full, empty, lost, wraps around or begins anew while an object is used (promises 5 to 30). */
public final class StateBoundsTest {
    private static final String HOUSE = "t3 20 4 0;t5 99 3 0;t11 10 5 0;t1 40 2 1;t24 60 1 0;v1;w4 3 250;";
    private static final String MOST = "t31 99 9 0;".repeat(7);

    private static final Due due = new Due("StateBoundsTest");

    public static void main(String[] args) {
        emptyVow();
        largestSums();
        largestDraw();
        tenUndone();
        eleventhIsLost();
        manyRoundsOfUndo();
        eachKindIsUndone();
        refusedIsNotUndone();
        unchangedIsUndone();
        undoneAndOn();
        undoLeavesTheRest();
        sixSeen();
        forgotten();
        fitsAtTheEnds();
        noneCanByEachCause();
        noneIsLeft();
        lostAtTheEnds();
        lostWrapsAround();
        drawAtTheEnds();
        senseAtTheEnds();
        wordsAtTheEnds();
        shutAtTheEnds();
        tellAtTheEnds();
        rateAtTheEnds();
        traceOfManyCalls();
        imagesHold();
        imagesLeaveTheRest();
        keptAgain();
        manyDays();
        lastCall();
        lastDay();
        lostBeyondTheLastDay();
        due.end();
    }

    private static void fraction(String name, int upper, int lower, int wantUpper, int wantLower) {
        due.is(name + ", upper", upper, wantUpper);
        due.is(name + ", lower", lower, wantLower);
    }

    /** "with no WORDS, 0, it COVERS all such": those not GIVEN up; with all of them, 31, those that have all. */
    private static void emptyVow() {
        FirstOut x = Due.told("t0 1 1 0;t31 1 1 0;t16 1 1 0;");
        due.is("7: swears(0)", x.swears(0), 3);
        due.is("7: swears(31)", x.swears(31), 1);
        due.is("6: now(2) by 31", x.now(2), 2);
        due.is("7: swears(0) again", x.swears(0), 3);
        int first = x.day(0);
        due.is("10: day(0)", first, 0);
        due.is("6: now(2) by 0, one GIVEN up", x.now(2), 6);
        due.is("7: swears(0), one GIVEN up", x.swears(0), 2);
    }

    /** Seven THINGS with the largest numbers there may be. */
    private static void largestSums() {
        FirstOut x = Due.told(MOST + "w0 10 999;");
        fraction("12: harm", x.harm(0), x.harm(1), 99, 1);
        fraction("13: odds(6)", x.odds(6, 0), x.odds(6, 1), 1, 7);
        fraction("14: swear", x.swear(0), x.swear(1), 900, 1);
        due.is("6: now(2)", x.now(2), 127);
        due.is("6: now(3)", x.now(3), 127);
        for (int z = 0; z < 7; z++) {
            x.day(z);
        }
        due.is("6: now(4) of all", x.now(4), 127);
        due.is("6: now(5) of all", x.now(5), 693);
        fraction("14: swear when none CAN", x.swear(0), x.swear(1), 999, 1);
        FirstOut lost = Due.told(MOST + "w10 0 999;");
        fraction("14: swear, the least", lost.swear(0), lost.swear(1), -99, 1);
        FirstOut odd = Due.told("t1 99 9 0;t0 0 8 0;".repeat(3) + "t0 0 8 0;v1;w9 1 999;");
        fraction("14: swear, the largest lower number", odd.swear(0), odd.swear(1), 32211, 590);
        fraction("12: harm, the largest lower number", odd.harm(0), odd.harm(1), 2673, 59);
    }

    /** x times x is far beyond an int by then. */
    private static void largestDraw() {
        FirstOut x = Due.told("t1 1 9 0;t1 1 7 0;t1 1 5 0;t1 1 9 0;t1 1 8 0;t1 1 1 0;t1 1 3 0;v2;");
        int[] eager = {9, 7, 5, 9, 8, 1, 3};
        for (int date = 0; date < 300; date++) {
            int z = 9999 - date % 7 * 1400;
            due.is("10: day(" + z + ") on DAY " + date, x.day(z), Door.first(z, date, eager));
        }
        due.is("6: now(4)", x.now(4), 0);
    }

    private static FirstOut sworn(int from, int to) {
        FirstOut x = Due.told(HOUSE);
        for (int words = from; words <= to; words++) {
            x.swears(words);
        }
        return x;
    }

    private static void undoneDownTo(FirstOut x, int count, int last) {
        due.is("6: how many may be UNDONE", x.now(6), count);
        for (int left = count - 1; left >= 0; left--) {
            due.is("11: undo() to " + left, x.undo(), left);
            due.is("6: now(6) at " + left, x.now(6), left);
            due.is("6: WORDS at " + left, x.now(1), last + left);
        }
        due.is("11: undo() of none", x.undo(), FirstOut.STATE);
        due.is("6: WORDS at the end", x.now(1), last);
    }

    /** "10 are known": nine, ten and all of them come back. */
    private static void tenUndone() {
        undoneDownTo(sworn(2, 10), 9, 1);
        undoneDownTo(sworn(2, 11), 10, 1);
    }

    /** "older ones are lost". */
    private static void eleventhIsLost() {
        undoneDownTo(sworn(2, 12), 10, 2);
        undoneDownTo(sworn(2, 13), 10, 3);
        undoneDownTo(sworn(2, 31), 10, 21);
    }

    /** Three steps on and one back, so that the ten known come round again and again. */
    private static void manyRoundsOfUndo() {
        FirstOut x = Due.told(HOUSE);
        int words = 1;
        for (int round = 0; round < 14; round++) {
            x.swears(words + 1);
            x.swears(words + 2);
            x.swears(words + 3);
            words += 2;
            due.is("11: undo() of round " + round, x.undo(), Math.min(10, 2 * round + 3) - 1);
            due.is("6: WORDS of round " + round, x.now(1), words);
        }
        undoneDownTo(x, 9, words - 9);
    }

    private static void eachKindIsUndone() {
        Supplier<FirstOut> scene = () -> sworn(5, 6);
        Whole.Call[] calls = {
            x -> x.swears(2), x -> x.keepsIn(1, 1), x -> x.tells(1, 1), x -> x.tells(3, 0), x -> x.day(0)};
        for (int i = 0; i < calls.length; i++) {
            FirstOut x = scene.get();
            due.isTrue("11: call " + i + " is not refused", calls[i].on(x) >= 0);
            due.is("6: now(6) behind call " + i, x.now(6), 3);
            due.is("11: undo() of call " + i, x.undo(), 2);
            due.is("11: all is as before call " + i, Whole.of(x), Whole.of(scene.get()));
        }
    }

    private static void refusedIsNotUndone() {
        FirstOut x = sworn(2, 4);
        due.is("7: swears(32)", x.swears(32), FirstOut.BAD);
        due.is("8: keepsIn(5, 1)", x.keepsIn(5, 1), FirstOut.BAD);
        due.is("9: tells(0, 2)", x.tells(0, 2), FirstOut.BAD);
        due.is("10: day(10000)", x.day(10000), FirstOut.BAD);
        undoneDownTo(x, 3, 1);
    }

    /** One that was not refused is known, though all is as before, and on a DAY nobody came. */
    private static void unchangedIsUndone() {
        FirstOut x = Due.told("t1 1 0 0;v3;");
        x.swears(3);
        due.is("6: now(6) behind the same WORDS", x.now(6), 1);
        x.keepsIn(0, 0);
        due.is("6: now(6) behind one let go again", x.now(6), 2);
        x.tells(0, 0);
        due.is("6: now(6) behind one that had forgotten", x.now(6), 3);
        due.is("10: day(0)", x.day(0), FirstOut.NONE);
        due.is("6: now(6) behind a DAY of nobody", x.now(6), 4);
        due.is("11: undo()", x.undo(), 3);
        due.is("6: DAY", x.now(0), 0);
    }

    private static void undoneAndOn() {
        FirstOut x = sworn(2, 12);
        for (int i = 0; i < 10; i++) {
            x.undo();
        }
        due.is("11: undo() of none", x.undo(), FirstOut.STATE);
        due.is("7: swears(3)", x.swears(3), 2);
        due.is("6: now(6) again", x.now(6), 1);
        for (int words = 4; words <= 12; words++) {
            x.swears(words);
        }
        undoneDownTo(x, 10, 2);
    }

    /** SEEN, THE TRACE, IMAGES and the text are not UNDONE. */
    private static void undoLeavesTheRest() {
        FirstOut x = Due.told(HOUSE);
        x.day(2);
        x.saw(1, 1);
        x.keep(1);
        x.rate(0, 0);
        x.type('v');
        due.is("11: undo()", x.undo(), 0);
        due.is("6: GIVEN up", x.now(4), 0);
        due.is("29: SEEN", x.count(4), 1);
        due.is("29: letters", x.count(5), 1);
        due.is("30: THE TRACE", x.trace(), 1);
        due.is("28: back(1)", x.back(1), 1);
        due.is("6: GIVEN up of the IMAGE", x.now(4), 2);
    }

    /** "SEEN (6 at most)". */
    private static void sixSeen() {
        FirstOut x = Due.told(HOUSE);
        for (int n = 1; n <= 6; n++) {
            due.is("21: saw " + n, x.saw(0, 1), n);
            due.is("29: SEEN " + n, x.count(4), n);
        }
        due.is("23: fit(0) of six", x.fit(0), 4);
        due.is("21: a 7th that would not fit", x.saw(0, 0), FirstOut.FULL);
        due.is("29: SEEN behind FULL", x.count(4), 6);
        due.is("23: fit(0) behind FULL", x.fit(0), 4);
        FirstOut last = Due.told(HOUSE);
        for (int n = 1; n <= 5; n++) {
            last.saw(0, 1);
        }
        last.saw(0, 0);
        due.is("23: fit(0), the 6th counts", last.fit(0), 0);
    }

    private static void forgotten() {
        FirstOut x = Due.told(HOUSE);
        due.is("22: forget() of none", x.forget(), 0);
        for (int n = 1; n <= 6; n++) {
            x.saw(4, n & 1);
        }
        due.is("23: fit(0)", x.fit(0), 0);
        due.is("22: forget() of six", x.forget(), 6);
        due.is("22: forget() again", x.forget(), 0);
        due.is("23: fit(0) of none", x.fit(0), 32);
        due.is("23: fit(1) of none", x.fit(1), 0);
        due.is("23: fit(2) of none", x.fit(2), 0);
        for (int n = 1; n <= 6; n++) {
            due.is("21: saw anew " + n, x.saw(1, 1), n);
        }
        due.is("21: saw anew, a 7th", x.saw(1, 1), FirstOut.FULL);
    }

    private static void fitIs(FirstOut x, int howMany, int least, int shared) {
        due.is("23: fit(0)", x.fit(0), howMany);
        due.is("23: fit(1)", x.fit(1), least);
        due.is("23: fit(2)", x.fit(2), shared);
    }

    /** All WORDS, one, none; the only one that FITS may be 0 or 31. */
    private static void fitsAtTheEnds() {
        FirstOut all = Due.told("t31 1 1 0;t0 1 1 0;");
        all.saw(0, 1);
        fitIs(all, 32, 0, 0);
        all.saw(1, 0);
        fitIs(all, 31, 1, 0);
        all.forget();
        all.saw(1, 1);
        fitIs(all, 1, 0, 0);
        all.saw(1, 0);
        fitIs(all, 0, FirstOut.NONE, FirstOut.NONE);
        FirstOut full = Due.told("t31 1 1 0;t30 1 1 0;t29 1 1 0;t27 1 1 0;t23 1 1 0;t15 1 1 0;");
        full.saw(0, 1);
        for (int t = 1; t < 6; t++) {
            due.is("21: saw(" + t + ", 0)", full.saw(t, 0), t + 1);
        }
        fitIs(full, 1, 31, 31);
        FirstOut never = Due.told("t31 1 1 0;");
        never.saw(0, 0);
        fitIs(never, 0, FirstOut.NONE, FirstOut.NONE);
    }

    private static void noneCan(String cause, FirstOut x, int things, int given) {
        due.is("6: now(3), " + cause, x.now(3), 0);
        fraction("12: harm, " + cause, x.harm(0), x.harm(1), 0, 1);
        fraction("14: swear, " + cause, x.swear(0), x.swear(1), 75, 1);
        due.is("17: means, " + cause, x.means((1 << things) - 1), FirstOut.NONE);
        due.is("19: shut(7, 0), " + cause, x.shut(7, 0), 0);
        fraction("19: shut(7), " + cause, x.shut(7, 1), x.shut(7, 2), 0, 1);
        due.is("20: tell(), " + cause, x.tell(), 0);
        due.is("24: lost(0, 7), " + cause, x.lost(0, 7), given);
        for (int t = 0; t < things; t++) {
            due.is("5: thing(" + t + ", 7), " + cause, x.thing(t, 7), 0);
            fraction("13: odds(" + t + "), " + cause, x.odds(t, 0), x.odds(t, 1), 0, 1);
            due.is("25: draw(" + t + ", 0), " + cause, x.draw(t, 0), 0);
            due.is("25: draw(" + t + ", 1), " + cause, x.draw(t, 1), FirstOut.NONE);
        }
        int date = x.now(0);
        int known = x.now(6);
        due.is("10: day(0), " + cause, x.day(0), FirstOut.NONE);
        due.is("10: day(9999), " + cause, x.day(9999), FirstOut.NONE);
        due.is("6: DAY, " + cause, x.now(0), date + 2);
        due.is("6: now(6), " + cause, x.now(6), Math.min(10, known + 2));
        due.is("6: GIVEN up, " + cause, x.now(4), given);
        x.undo();
        due.is("11: DAY of nobody UNDONE, " + cause, x.now(0), date + 1);
    }

    /** "If none CAN, nobody comes", "0 by 1: none CAN": by each cause there is, and by all of them at once. */
    private static void noneCanByEachCause() {
        String war = "w4 3 250;";
        noneCan("no THINGS", Due.told(war), 0, 0);
        noneCan("none is EAGER", Due.told("t1 9 0 0;t2 9 0 0;" + war), 2, 0);
        noneCan("all KNOW and are COVERED", Due.told("t1 9 1 1;t3 9 9 1;v1;" + war), 2, 0);
        FirstOut kept = Due.told("t1 9 1 0;t2 9 9 0;" + war);
        kept.keepsIn(0, 1);
        kept.keepsIn(1, 1);
        noneCan("all are KEPT in", kept, 2, 0);
        FirstOut given = Due.told("t1 9 1 0;t2 9 9 0;" + war);
        given.day(0);
        given.day(1);
        noneCan("all were GIVEN up", given, 2, 3);
        FirstOut each = Due.told("t1 9 1 0;t1 9 0 0;t1 9 9 1;t1 9 9 0;v1;" + war);
        each.keepsIn(3, 1);
        each.day(0);
        noneCan("each by another cause", each, 4, 1);
        FirstOut seven = Due.told(MOST + war);
        for (int z = 0; z < 7; z++) {
            seven.day(z);
        }
        noneCan("all seven were GIVEN up", seven, 7, 127);
    }

    /** One that was GIVEN up is no more COVERED, so its KNOWING or WORDS bring it not back. */
    private static void noneIsLeft() {
        FirstOut x = Due.told("t1 9 1 0;");
        due.is("10: day(0)", x.day(0), 0);
        due.is("6: now(2)", x.now(2), 0);
        due.is("7: swears(2)", x.swears(2), 0);
        due.is("6: now(3) by other WORDS", x.now(3), 0);
        due.is("9: tells(0, 1)", x.tells(0, 1), 0);
        due.is("6: now(3), TOLD", x.now(3), 0);
        due.is("8: keepsIn(0, 0)", x.keepsIn(0, 0), 0);
        due.is("6: now(3), let go", x.now(3), 0);
        due.is("15: sense(0)", x.sense(0), 0);
        due.is("16: both(0)", x.both(0), 0);
        due.is("18: span()", x.span(), FirstOut.NONE);
    }

    /** n 0 .. 7: none, and as many as there can be THINGS. */
    private static void lostAtTheEnds() {
        FirstOut x = Due.told(MOST);
        due.is("24: lost(0, 0)", x.lost(0, 0), 0);
        for (int n = 1; n <= 7; n++) {
            due.is("24: how many lost(0, " + n + ")", Integer.bitCount(x.lost(0, n)), n);
        }
        due.is("24: lost(0, 7)", x.lost(0, 7), 127);
        x.day(0);
        due.is("24: lost(0, 0), one GIVEN up before", x.lost(0, 0), x.now(4));
        due.is("24: lost(0, 8)", x.lost(0, 8), FirstOut.BAD);
        due.is("24: lost(0, -1)", x.lost(0, -1), FirstOut.BAD);
    }

    /** "z and 1 together, .. (above 9999 on from 0)": the last z that does not, the first that does wrap around. */
    private static void lostWrapsAround() {
        String text = "t1 1 9 0;t1 1 7 0;t1 1 5 0;t1 1 9 0;t1 1 8 0;t1 1 1 0;t1 1 3 0;v1;";
        FirstOut x = Due.told(text);
        for (int z = 9990; z <= 9999; z++) {
            int[] eager = {9, 7, 5, 9, 8, 1, 3};
            int lost = 0;
            for (int n = 1; n <= 7; n++) {
                int next = z + n - 1 > 9999 ? z + n - 1 - 10000 : z + n - 1;
                int t = Door.first(next, n - 1, eager);
                eager[t] = 0;
                lost |= 1 << t;
                due.is("24: lost(" + z + ", " + n + ")", x.lost(z, n), lost);
            }
        }
        due.is("6: DAY", x.now(0), 0);
    }

    /** "of z 0 .. 499": neither fewer nor more, on the first DAY and on later ones. */
    private static void drawAtTheEnds() {
        int[] eager = {9, 7, 5, 9, 8, 1, 3};
        FirstOut x = Due.told("t1 1 9 0;t1 1 7 0;t1 1 5 0;t1 1 9 0;t1 1 8 0;t1 1 1 0;t1 1 3 0;v2;");
        for (int date = 0; date < 9; date++) {
            int together = 0;
            for (int t = 0; t < 7; t++) {
                int times = x.draw(t, 0);
                int least = x.draw(t, 1);
                together += times;
                due.is("25: draw(" + t + ", 0) on DAY " + date, times, Door.draws(t, date, eager));
                due.is("25: draw(" + t + ", 1) on DAY " + date, Door.first(least, date, eager), t);
                for (int z = 0; z < least; z++) {
                    due.isTrue("25: none before " + least, Door.first(z, date, eager) != t);
                }
            }
            due.is("25: all draws on DAY " + date, together, 500);
            x.day(date);
        }
        leastDraws();
    }

    /** The least z is 0, is near the last there is, is none though the THING CAN come. */
    private static void leastDraws() {
        FirstOut only = Due.told("t1 1 1 0;v2;");
        due.is("25: draw(0, 0) of the only one", only.draw(0, 0), 500);
        due.is("25: draw(0, 1) of the only one", only.draw(0, 1), 0);
        FirstOut rare = Due.told("t1 1 9 0;t1 1 9 0;t1 1 9 0;t1 1 9 0;t1 1 8 0;t1 1 1 0;t1 1 9 0;v2;");
        for (int date = 0; date < 151; date++) {
            rare.day(0);
        }
        due.is("25: draw(5, 1) of a rare one", rare.draw(5, 1), 486);
        due.is("25: draw(5, 0) of a rare one", rare.draw(5, 0), Door.draws(5, 151, 9, 9, 9, 9, 8, 1, 9));
        for (int date = 151; date < 163; date++) {
            rare.day(0);
        }
        due.is("5: the rare one CAN come", rare.thing(5, 7), 1);
        due.is("25: draw(5, 0) of one that no z draws", rare.draw(5, 0), 0);
        due.is("25: draw(5, 1) of one that no z draws", rare.draw(5, 1), FirstOut.NONE);
    }

    /** k 0 .. 5, with no WORDS and with all. */
    private static void senseAtTheEnds() {
        FirstOut x = Due.told("t31 1 1 0;t15 1 1 0;t0 1 1 0;");
        due.is("15: sense(0), no WORDS", x.sense(0), 7);
        due.is("15: sense(1), no WORDS", x.sense(1), 0);
        x.swears(31);
        int[] want = {7, 3, 3, 3, 3, 1};
        for (int k = 0; k <= 5; k++) {
            due.is("15: sense(" + k + "), all WORDS", x.sense(k), want[k]);
        }
        due.is("15: sense(6)", x.sense(6), FirstOut.BAD);
    }

    /** MEAN and SPAN: no WORDS, all five, none at all; of as few the least. */
    private static void wordsAtTheEnds() {
        FirstOut near = Due.told("t31 1 1 0;t30 1 1 0;t29 1 1 0;t27 1 1 0;t23 1 1 0;t15 1 1 0;");
        due.is("17: means, all TRAITS", near.means(1), 31);
        due.is("17: means, one TRAIT", near.means(61), 1);
        due.is("17: means, none", near.means(63), 0);
        due.is("17: means of nobody", near.means(0), FirstOut.NONE);
        due.is("18: span(), all TRAITS", near.span(), 31);
        due.is("18: span() of one", Due.told("t0 1 0 1;").span(), 0);
        due.is("18: span() of two alike", Due.told("t9 1 1 0;t9 1 1 0;").span(), FirstOut.NONE);
        FirstOut high = Due.told("t28 1 1 0;t3 1 1 0;");
        due.is("17: of as few the least", high.means(1), 4);
        due.is("17: of as few the least", high.means(2), 1);
        due.is("18: of as few the least", high.span(), 1);
        FirstOut fewer = Due.told("t19 1 1 0;t1 1 1 0;t2 1 1 0;");
        due.is("17: the fewest ahead of the least", fewer.means(1), 16);
        due.is("18: the fewest ahead of the least", fewer.span(), 16);
    }

    /** n 0 .. 7; of several the fewest, of these the least bits. */
    private static void shutAtTheEnds() {
        FirstOut most = Due.told(MOST);
        for (int n = 0; n <= 7; n++) {
            due.is("19: shut(" + n + ", 0) of seven alike", most.shut(n, 0), n == 7 ? 127 : 0);
            fraction("19: shut(" + n + ")", most.shut(n, 1), most.shut(n, 2), n == 7 ? 0 : 99, 1);
        }
        FirstOut two = Due.told("t1 9 1 0;t1 9 1 0;t0 9 1 0;v1;");
        due.is("19: shut(0, 0)", two.shut(0, 0), 0);
        fraction("19: shut(0)", two.shut(0, 1), two.shut(0, 2), 6, 1);
        due.is("19: shut(1, 0), the least bits", two.shut(1, 0), 1);
        fraction("19: shut(1)", two.shut(1, 1), two.shut(1, 2), 9, 2);
        due.is("19: shut(2, 0)", two.shut(2, 0), 3);
        due.is("19: shut(7, 0), the fewest", two.shut(7, 0), 3);
        fraction("19: shut(7)", two.shut(7, 1), two.shut(7, 2), 0, 1);
        FirstOut close = Due.told("t1 9 1 0;t1 11 2 0;t1 12 1 0;");
        due.is("19: shut(1, 0), fractions close to one another", close.shut(1, 0), 4);
        fraction("19: shut(1)", close.shut(1, 1), close.shut(1, 2), 31, 3);
        due.is("19: shut(7, 0) without harm", Due.told("t1 0 1 0;t1 9 0 0;v1;").shut(7, 0), 0);
    }

    private static void tellAtTheEnds() {
        due.is("20: tell() of seven", Due.told(MOST).tell(), 127);
        due.is("20: tell() of DEAR 0", Due.told("t1 0 9 0;".repeat(7)).tell(), 0);
        due.is("20: tell() of DEAR 1", Due.told("t1 1 1 0;".repeat(7)).tell(), 127);
        due.is("20: tell() of EAGER 0", Due.told("t1 99 0 0;".repeat(7)).tell(), 0);
        due.is("20: tell() of those that KNOW", Due.told("t1 99 9 1;".repeat(7)).tell(), 0);
        due.is("20: tell() of none COVERED", Due.told("t1 99 9 0;".repeat(7) + "v2;").tell(), 0);
    }

    private static void rateAtTheEnds() {
        FirstOut x = Due.told("t31 0 0 0;" + "t1 1 1 0;".repeat(5) + "t31 99 9 0;");
        int[] least = {0, 0, -5, 0, -5, 0};
        int[] most = {99, 108, 94, 216, 100, 99};
        for (int kind = 0; kind < 6; kind++) {
            due.is("26: rate(" + kind + ", 0)", x.rate(kind, 0), least[kind]);
            due.is("26: rate(" + kind + ", 6)", x.rate(kind, 6), most[kind]);
        }
        due.is("30: trace()", x.trace(), 2 * (1 + 11 + 101 + 1011 + 10101 + 100001));
        x.day(0);
        due.is("26: rate(5, 6) on DAY 1", x.rate(5, 6), 100);
        x.undo();
        due.is("26: rate(5, 6) on DAY 0 again", x.rate(5, 6), 99);
    }

    private static void traceOfManyCalls() {
        FirstOut x = Due.told("t1 1 1 0;");
        for (int n = 1; n <= 490; n++) {
            x.rate(5, 0);
        }
        due.is("30: trace() of 490 priests", x.trace(), 49000490L);
        due.is("26: rate(6, 0)", x.rate(6, 0), FirstOut.NO);
        due.is("30: trace() behind NO", x.trace(), 49000490L);
    }

    /** "IMAGES 0, 1 keep NOW (WORDS, who KNOWS, is KEPT in, was GIVEN up, THE DAY)". */
    private static void imagesHold() {
        FirstOut x = Due.told(HOUSE);
        due.is("27: keep(1) at first", x.keep(1), 0);
        x.day(0);
        x.swears(8);
        x.keepsIn(4, 1);
        x.tells(1, 1);
        x.tells(3, 0);
        due.is("27: keep(0)", x.keep(0), 1);
        due.is("27: now(6), keep() is none of those", x.now(6), 5);
        imageIs(x, 1, 0, 1, 0, 8, 0);
        imageIs(x, 0, 1, 8, 1, 2, 16);
        imageIs(x, 1, 0, 1, 0, 8, 0);
    }

    private static void imageIs(FirstOut x, int image, int date, int words, int given, int knows, int kept) {
        due.is("28: back(" + image + ")", x.back(image), date);
        due.is("28: DAY", x.now(0), date);
        due.is("28: WORDS", x.now(1), words);
        due.is("28: GIVEN up", x.now(4), given);
        for (int t = 0; t < 5; t++) {
            due.is("28: KNOWS " + t, x.thing(t, 3), knows >> t & 1);
            due.is("28: KEPT in " + t, x.thing(t, 4), kept >> t & 1);
        }
        due.is("28: now(6)", x.now(6), 0);
        due.is("28: undo() behind back()", x.undo(), FirstOut.STATE);
    }

    /** "nothing else": SEEN, THE TRACE and the text are not gone back to, the other IMAGE stays. */
    private static void imagesLeaveTheRest() {
        FirstOut x = Due.told(HOUSE);
        x.keep(0);
        x.saw(0, 1);
        x.saw(1, 0);
        x.rate(1, 0);
        x.type('v');
        x.swears(2);
        x.keep(1);
        due.is("28: back(0)", x.back(0), 0);
        due.is("29: SEEN", x.count(4), 2);
        due.is("23: fit(0)", x.fit(0), 2);
        due.is("30: THE TRACE", x.trace(), 11);
        due.is("29: letters", x.count(5), 1);
        due.is("28: back(1)", x.back(1), 0);
        due.is("6: WORDS of the other", x.now(1), 2);
        x.swears(4);
        due.is("6: now(6) behind back() and on", x.now(6), 1);
        due.is("11: undo()", x.undo(), 0);
        due.is("6: WORDS", x.now(1), 2);
        x.swears(5);
        due.is("28: back(1) again", x.back(1), 0);
        due.is("6: WORDS, the IMAGE is as it was kept", x.now(1), 2);
    }

    /** An IMAGE kept again has the later, and only that one. */
    private static void keptAgain() {
        FirstOut x = Due.told(HOUSE);
        x.keep(0);
        x.keep(1);
        x.swears(7);
        x.day(3);
        due.is("27: keep(0) again", x.keep(0), 1);
        x.day(4);
        due.is("28: back(1)", x.back(1), 0);
        due.is("6: WORDS of 1", x.now(1), 1);
        due.is("28: back(0)", x.back(0), 1);
        due.is("6: WORDS of 0", x.now(1), 7);
    }

    /** As many DAYS as an object has calls. */
    private static void manyDays() {
        FirstOut x = new FirstOut();
        for (int date = 0; date < 511; date++) {
            due.is("10: day(" + date + ") of no THINGS", x.day(date), FirstOut.NONE);
        }
        due.is("6: DAY, by the 512th call", x.now(0), 511);
    }

    /** "at most 512 calls": the 512th still changes and answers as told. */
    private static void lastCall() {
        FirstOut x = new FirstOut();
        Due.type(x, "t1 5 1 0;");
        x.house();
        for (int call = 11; call <= 511; call++) {
            x.swears(call & 1);
        }
        due.is("10: day(0) as the 512th call", x.day(0), 0);
    }

    private static FirstOut on(int date) {
        FirstOut x = Due.told("t1 1 9 0;t1 1 7 0;t1 1 5 0;t1 1 9 0;t1 1 8 0;t1 1 1 0;t1 1 3 0;v2;");
        for (int i = 0; i < date; i++) {
            x.day(i);
        }
        return x;
    }

    /** "THE DAY (999 at most)", though that is far behind the 512th call, where answers are free. */
    private static void lastDay() {
        FirstOut x = on(998);
        due.is("6: DAY 998", x.now(0), 998);
        due.isTrue("10: day(0) on DAY 998", x.day(0) >= 0);
        due.is("6: DAY 999", x.now(0), 999);
        Whole.stays(due, "10: day(0) on DAY 999", () -> on(999), y -> y.day(0), FirstOut.STATE);
        Whole.stays(due, "10: day(9999) on DAY 999", () -> on(999), y -> y.day(9999), FirstOut.STATE);
        Whole.stays(due, "10: day(10000) on DAY 999", () -> on(999), y -> y.day(10000), FirstOut.BAD);
        Whole.stays(due, "10: day(-1) on DAY 999", () -> on(999), y -> y.day(-1), FirstOut.BAD);
        due.is("11: undo() on DAY 999", x.undo(), 9);
        due.isTrue("10: day(0) on DAY 998 again", x.day(0) >= 0);
    }

    /** "DAY 999 does not matter". */
    private static void lostBeyondTheLastDay() {
        for (int date = 992; date <= 999; date++) {
            FirstOut x = on(date);
            x.swears(1);
            int[] eager = {9, 7, 5, 9, 8, 1, 3};
            int lost = 0;
            for (int n = 1; n <= 7; n++) {
                int t = Door.first(40 + n - 1, date + n - 1, eager);
                eager[t] = 0;
                lost |= 1 << t;
                due.is("24: lost(40, " + n + ") on DAY " + date, x.lost(40, n), lost);
            }
            due.is("6: DAY", x.now(0), date);
        }
    }
}
