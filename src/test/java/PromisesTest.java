/** Each promise by ordinary inputs, the edges that the document names, and wrong inputs. */
public final class PromisesTest {
    private static final String HOUSE = "t3 20 4 0;t5 99 3 0;t11 10 5 0;t1 40 2 1;t24 60 1 0;v1;w4 3 250;";
    private static final String TWO = "t1 5 1 0;t2 6 1 0;";
    private static final String NEAR = "t31 1 1 0;t30 1 1 0;t29 1 1 0;t27 1 1 0;t23 1 1 0;t15 1 1 0;";

    private static final Due due = new Due("PromisesTest");

    public static void main(String[] args) {
        newObject();
        type();
        clear();
        houseItems();
        houseFaults();
        houseAnew();
        houseRefusedChangesNothing();
        thing();
        now();
        swears();
        keepsIn();
        tells();
        day();
        lastDay();
        undo();
        harm();
        odds();
        swear();
        sense();
        both();
        means();
        span();
        shut();
        tell();
        saw();
        forget();
        fit();
        lost();
        draw();
        rate();
        keepAndBack();
        count();
        trace();
        sevenThings();
        due.end();
    }

    private static void newObject() {
        FirstOut x = new FirstOut();
        int[] counts = {0, 5, 0, 100, 0, 0};
        for (int what = 0; what < counts.length; what++) {
            due.is("1: count(" + what + ")", x.count(what), counts[what]);
        }
        for (int what = 0; what <= 6; what++) {
            due.is("1: now(" + what + ")", x.now(what), 0);
        }
        due.is("1: trace()", x.trace(), 0);
        due.is("1: back(0)", x.back(0), FirstOut.STATE);
        due.is("1: back(1)", x.back(1), FirstOut.STATE);
        due.is("1: undo()", x.undo(), FirstOut.STATE);
        due.is("1: thing(0, 0)", x.thing(0, 0), FirstOut.BAD);
    }

    private static void type() {
        FirstOut x = new FirstOut();
        due.is("2: type(0)", x.type(0), 1);
        due.is("2: type(255)", x.type(255), 2);
        due.is("2: type(-1)", x.type(-1), FirstOut.BAD);
        due.is("2: type(256)", x.type(256), FirstOut.BAD);
        due.is("2: type(MIN)", x.type(Integer.MIN_VALUE), FirstOut.BAD);
        for (int n = 3; n <= 200; n++) {
            due.is("2: type(32)", x.type(32), n);
        }
        due.is("2: type(32) of 201", x.type(32), FirstOut.FULL);
        due.is("2: type(256) of 201", x.type(256), FirstOut.BAD);
        due.is("2: count(5)", x.count(5), 200);
    }

    private static void clear() {
        FirstOut x = Due.told(TWO);
        due.is("3: clear() of none", x.clear(), 0);
        Due.type(x, "t1 ");
        due.is("3: clear()", x.clear(), 3);
        due.is("3: clear() again", x.clear(), 0);
        due.is("3: count(0)", x.count(0), 2);
        due.is("3: type", x.type('v'), 1);
    }

    private static void houseIs(String text, int want) {
        FirstOut x = new FirstOut();
        Due.type(x, text);
        due.is("4: house() of '" + text + "'", x.house(), want);
        due.is("4: letters behind '" + text + "'", x.count(5), want < 0 ? text.length() : 0);
    }

    private static void houseItems() {
        houseIs("", 0);
        houseIs("   ", 0);
        houseIs("t0 0 0 0;", 1);
        houseIs("t31 99 9 1;", 1);
        houseIs("  t 3  5 2 0 ;  v  2;  ", 2);
        houseIs("v31;w10 0 999;t1 1 1 1;", 3);
        houseIs("w0 10 0;", 1);
        houseIs("t1 1 1 1;".repeat(7) + "v0;w5 5 0;", 9);
        houseIs("t1 1 1 1;".repeat(7) + " ".repeat(137), 7);
    }

    private static void houseFaults() {
        houseIs("x", -10);
        houseIs(";", -10);
        houseIs("5", -10);
        houseIs("T1 1 1 1;", -10);
        houseIs("\t", -10);
        houseIs("  \u00e9", -12);
        houseIs("t", -11);
        houseIs("t  ", -13);
        houseIs("t1 1 1 1", -18);
        houseIs("t1 1 1 1 ", -19);
        houseIs("t1 1 1 1 1;", -19);
        houseIs("t;", -11);
        houseIs("t1;", -12);
        houseIs("t1 1;", -14);
        houseIs("t1 1 1;", -16);
        houseIs("t1 1 1 1;;", -19);
        houseIs("t1t", -12);
        houseIs("t-1 1 1 1;", -11);
        houseIs("t1,1 1 1;", -12);
        houseIs("t32 1 1 1;", -11);
        houseIs("t1 100 1 1;", -13);
        houseIs("t1 1 10 1;", -15);
        houseIs("t1 1 1 2;", -17);
        houseIs("t01 1 1 1;", -11);
        houseIs("t00 1 1 1;", -11);
        houseIs("t1000 1 1 1;", -11);
        houseIs("t4294967297 1 1 1;", -11);
        houseIs("t18446744073709551617 1 1 1;", -11);
        houseIs("t1 1 1 1;".repeat(7) + "t", -73);
        houseIs("t1 1 1 1;".repeat(7) + " t1 1 1 1;", -74);
        houseIs("v", -11);
        houseIs("v;", -11);
        houseIs("vv", -11);
        houseIs("v32;", -11);
        houseIs("v1 2;", -13);
        houseIs("v1;v", -13);
        houseIs("v1; v1;", -14);
        houseIs("w11 0 0;", -11);
        houseIs("w10 1 0;", -14);
        houseIs("w0 11 0;", -13);
        houseIs("w6 5 0;", -13);
        houseIs("w5 5 1000;", -15);
        houseIs("w5 5 012;", -15);
        houseIs("w;", -11);
        houseIs("w5;", -12);
        houseIs("w5 5;", -14);
        houseIs("w1 1 1;w", -17);
        houseIs("w1 1 1", -16);
        houseIs(" ".repeat(199) + "t", -210);
        houseIs(" ".repeat(198) + "t1", -210);
        FirstOut x = new FirstOut();
        Due.type(x, "v35;");
        x.clear();
        Due.type(x, "v3");
        due.is("4: house(), letters cleared do not count", x.house(), -12);
        x.clear();
        Due.type(x, "v3;");
        x.clear();
        Due.type(x, "v3");
        due.is("4: house(), a cleared end does not count", x.house(), -12);
    }

    private static void houseAnew() {
        FirstOut x = Due.told(HOUSE);
        x.rate(0, 0);
        x.keep(0);
        x.keep(1);
        x.saw(0, 1);
        due.is("4: day(0) before", x.day(0), 0);
        x.keepsIn(2, 1);
        x.swears(2);
        x.tells(0, 1);
        due.is("4: now(4) before", x.now(4), 1);
        Due.type(x, "t1 2 3 1;t2 4 6 0;t7 7 7 0;");
        due.is("4: house() anew", x.house(), 3);
        int[] counts = {3, 5, 0, 100, 0, 0};
        for (int what = 0; what < counts.length; what++) {
            due.is("4: count(" + what + ") anew", x.count(what), counts[what]);
        }
        int[] nows = {0, 0, 7, 6, 0, 0, 0};
        for (int what = 0; what < nows.length; what++) {
            due.is("4: now(" + what + ") anew", x.now(what), nows[what]);
        }
        int[] first = {1, 2, 3, 1, 0, 0, 1, 0};
        for (int what = 0; what < first.length; what++) {
            due.is("4: thing(0, " + what + ") anew", x.thing(0, what), first[what]);
        }
        due.is("4: thing(2, 4) anew", x.thing(2, 4), 0);
        due.is("4: undo() anew", x.undo(), FirstOut.STATE);
        due.is("4: back(0) anew", x.back(0), FirstOut.STATE);
        due.is("4: back(1) anew", x.back(1), FirstOut.STATE);
        due.is("4: house() of nothing", x.house(), 0);
        due.is("4: count(0) of nothing", x.count(0), 0);
    }

    private static void houseRefusedChangesNothing() {
        FirstOut x = Due.told(HOUSE);
        x.keep(0);
        x.saw(0, 1);
        x.day(0);
        Due.type(x, "t1 1 1 1;v2;w1 1 1;?");
        due.is("4: house() with a fault behind items", x.house(), -29);
        int[] counts = {5, 4, 3, 250, 1, 20};
        for (int what = 0; what < counts.length; what++) {
            due.is("4: count(" + what + ") behind a fault", x.count(what), counts[what]);
        }
        due.is("4: now(0) behind a fault", x.now(0), 1);
        due.is("4: now(1) behind a fault", x.now(1), 1);
        due.is("4: now(4) behind a fault", x.now(4), 1);
        due.is("4: thing(0, 1) behind a fault", x.thing(0, 1), 20);
        due.is("4: house() again", x.house(), -29);
        due.is("4: back(0) behind a fault", x.back(0), 0);
    }

    private static void thing() {
        FirstOut x = Due.told(HOUSE);
        int[][] want = {
            {3, 20, 4, 0, 0, 0, 1, 1}, {5, 99, 3, 0, 0, 0, 1, 1}, {11, 10, 5, 0, 0, 0, 1, 1},
            {1, 40, 2, 1, 0, 0, 1, 0}, {24, 60, 1, 0, 0, 0, 0, 1}};
        for (int t = 0; t < want.length; t++) {
            for (int what = 0; what < 8; what++) {
                due.is("5: thing(" + t + ", " + what + ")", x.thing(t, what), want[t][what]);
            }
        }
        x.keepsIn(4, 1);
        due.is("5: thing(4, 4)", x.thing(4, 4), 1);
        due.is("5: thing(4, 7)", x.thing(4, 7), 0);
        x.day(0);
        due.is("5: thing(0, 5)", x.thing(0, 5), 1);
        due.is("5: thing(0, 6)", x.thing(0, 6), 0);
        due.is("5: thing(0, 7)", x.thing(0, 7), 0);
        due.is("5: thing(-1, 0)", x.thing(-1, 0), FirstOut.BAD);
        due.is("5: thing(5, 0)", x.thing(5, 0), FirstOut.BAD);
        due.is("5: thing(0, -1)", x.thing(0, -1), FirstOut.BAD);
        due.is("5: thing(0, 8)", x.thing(0, 8), FirstOut.BAD);
        due.is("5: one that is not eager", Due.told("t1 1 0 0;v2;").thing(0, 7), 0);
        due.is("5: one that knows and is not covered", Due.told("t1 1 1 1;v2;").thing(0, 7), 1);
    }

    private static void now() {
        FirstOut x = Due.told(HOUSE);
        int[] want = {0, 1, 15, 23, 0, 0, 0};
        for (int what = 0; what < want.length; what++) {
            due.is("6: now(" + what + ")", x.now(what), want[what]);
        }
        x.day(2);
        x.day(6);
        int[] later = {2, 1, 9, 17, 6, 109, 2};
        for (int what = 0; what < later.length; what++) {
            due.is("6: now(" + what + ") later", x.now(what), later[what]);
        }
        due.is("6: now(-1)", x.now(-1), FirstOut.BAD);
        due.is("6: now(7)", x.now(7), FirstOut.BAD);
    }

    private static void swears() {
        FirstOut x = Due.told(HOUSE);
        due.is("7: swears(0)", x.swears(0), 5);
        due.is("7: swears(3)", x.swears(3), 2);
        due.is("7: now(1)", x.now(1), 3);
        due.is("7: swears(31)", x.swears(31), 0);
        due.is("7: swears(-1)", x.swears(-1), FirstOut.BAD);
        due.is("7: swears(32)", x.swears(32), FirstOut.BAD);
        due.is("7: now(1) behind BAD", x.now(1), 31);
        due.is("7: now(6)", x.now(6), 3);
        x.swears(1);
        x.day(2);
        due.is("7: swears(1) again", x.swears(1), Integer.bitCount(x.now(2)));
        due.is("7: now(4) and now(2)", x.now(4) & x.now(2), 0);
    }

    private static void keepsIn() {
        FirstOut x = Due.told(HOUSE);
        due.is("8: keepsIn(4, 1)", x.keepsIn(4, 1), 0);
        due.is("8: keepsIn(4, 1) again", x.keepsIn(4, 1), 1);
        due.is("8: now(3)", x.now(3), 7);
        due.is("8: keepsIn(4, 0)", x.keepsIn(4, 0), 1);
        due.is("8: keepsIn(4, 0) again", x.keepsIn(4, 0), 0);
        due.is("8: now(3) let go", x.now(3), 23);
        due.is("8: now(6)", x.now(6), 4);
        due.is("8: keepsIn(-1, 0)", x.keepsIn(-1, 0), FirstOut.BAD);
        due.is("8: keepsIn(5, 0)", x.keepsIn(5, 0), FirstOut.BAD);
        due.is("8: keepsIn(0, -1)", x.keepsIn(0, -1), FirstOut.BAD);
        due.is("8: keepsIn(0, 2)", x.keepsIn(0, 2), FirstOut.BAD);
        due.is("8: now(6) behind BAD", x.now(6), 4);
    }

    private static void tells() {
        FirstOut x = Due.told(HOUSE);
        due.is("9: tells(3, 0)", x.tells(3, 0), 1);
        due.is("9: now(3)", x.now(3), 31);
        due.is("9: tells(0, 1)", x.tells(0, 1), 0);
        due.is("9: tells(0, 1) again", x.tells(0, 1), 1);
        due.is("9: now(3) told", x.now(3), 30);
        due.is("9: tells(4, 1)", x.tells(4, 1), 0);
        due.is("9: now(3) of one not covered", x.now(3), 30);
        due.is("9: now(6)", x.now(6), 4);
        due.is("9: tells(-1, 0)", x.tells(-1, 0), FirstOut.BAD);
        due.is("9: tells(5, 0)", x.tells(5, 0), FirstOut.BAD);
        due.is("9: tells(0, -1)", x.tells(0, -1), FirstOut.BAD);
        due.is("9: tells(0, 2)", x.tells(0, 2), FirstOut.BAD);
        due.is("9: thing(0, 3)", x.thing(0, 3), 1);
        due.is("9: now(6) behind BAD", x.now(6), 4);
    }

    private static void day() {
        FirstOut x = Due.told(HOUSE);
        due.is("10: day(-1)", x.day(-1), FirstOut.BAD);
        due.is("10: day(10000)", x.day(10000), FirstOut.BAD);
        due.is("10: now(0) behind BAD", x.now(0), 0);
        due.is("10: now(6) behind BAD", x.now(6), 0);
        due.is("10: day(2), the 6th of 13", x.day(2), 1);
        due.is("10: now(0)", x.now(0), 1);
        due.is("10: now(4)", x.now(4), 2);
        due.is("10: day(7), the 10th of 10", x.day(7), 4);
        due.is("10: now(4) of one not covered", x.now(4), 2);
        due.is("10: day(0), the 4th of 10", x.day(0), 0);
        due.is("10: now(4) of two", x.now(4), 3);
        due.is("10: now(5)", x.now(5), 119);
        due.is("10: day(9999)", Due.told(HOUSE).day(9999), 0);
        FirstOut none = Due.told("t1 1 0 0;t1 1 1 1;v1;");
        due.is("10: day(0) of none", none.day(0), FirstOut.NONE);
        due.is("10: now(0) of none", none.now(0), 1);
        due.is("10: now(6) of none", none.now(6), 1);
    }

    /** Far behind the 512th call, where answers are free; the words of the promise are kept all the same. */
    private static void lastDay() {
        FirstOut x = Due.told(TWO);
        x.swears(31);
        for (int i = 0; i < 999; i++) {
            x.day(i);
        }
        due.is("10: now(0) at the end", x.now(0), 999);
        due.is("10: day(10000) at the end", x.day(10000), FirstOut.BAD);
        due.is("10: day(0) at the end", x.day(0), FirstOut.STATE);
        due.is("10: now(6) at the end", x.now(6), 10);
        x.swears(0);
        due.is("24: lost(0, 7) at the end", x.lost(0, 7), 3);
    }

    private static void undo() {
        FirstOut x = Due.told(HOUSE);
        x.tells(0, 1);
        x.tells(0, 0);
        x.keepsIn(1, 1);
        x.swears(9);
        x.day(0);
        due.is("11: now(6)", x.now(6), 5);
        due.is("11: undo() of day", x.undo(), 4);
        due.is("11: now(0)", x.now(0), 0);
        due.is("11: now(4)", x.now(4), 0);
        due.is("11: undo() of swears", x.undo(), 3);
        due.is("11: now(1)", x.now(1), 1);
        due.is("11: thing(1, 4) still", x.thing(1, 4), 1);
        due.is("11: undo() of keepsIn", x.undo(), 2);
        due.is("11: thing(1, 4)", x.thing(1, 4), 0);
        due.is("11: undo() of tells", x.undo(), 1);
        due.is("11: thing(0, 3)", x.thing(0, 3), 1);
        due.is("11: undo() of all", x.undo(), 0);
        due.is("11: thing(0, 3) at first", x.thing(0, 3), 0);
        due.is("11: undo() of none", x.undo(), FirstOut.STATE);
        for (int words = 2; words < 14; words++) {
            x.swears(words);
        }
        due.is("11: now(6) of 12", x.now(6), 10);
        x.swears(32);
        for (int left = 9; left >= 0; left--) {
            due.is("11: undo() to " + left, x.undo(), left);
            due.is("11: words at " + left, x.now(1), left + 3);
        }
        due.is("11: undo() behind 10", x.undo(), FirstOut.STATE);
        due.is("11: now(1) behind 10", x.now(1), 3);
        x.saw(0, 1);
        x.keep(0);
        due.is("11: undo() of other calls", x.undo(), FirstOut.STATE);
    }

    private static void fraction(String call, int upper, int lower, int wantUpper, int wantLower) {
        due.is(call + " upper", upper, wantUpper);
        due.is(call + " lower", lower, wantLower);
    }

    private static void harmIs(FirstOut x, int upper, int lower) {
        fraction("12: harm", x.harm(0), x.harm(1), upper, lower);
    }

    private static void harm() {
        harmIs(Due.told(HOUSE), 427, 13);
        harmIs(Due.told("t1 10 2 0;t0 0 2 0;v1;"), 5, 1);
        harmIs(Due.told("t1 10 2 0;t0 9 4 0;v1;"), 10, 3);
        harmIs(Due.told("t1 10 2 0;v2;"), 0, 1);
        harmIs(Due.told("t1 10 2 1;v1;"), 0, 1);
        harmIs(new FirstOut(), 0, 1);
        due.is("12: harm(-1)", new FirstOut().harm(-1), FirstOut.BAD);
        due.is("12: harm(2)", new FirstOut().harm(2), FirstOut.BAD);
    }

    private static void odds() {
        FirstOut x = Due.told(HOUSE);
        fraction("13: odds(0)", x.odds(0, 0), x.odds(0, 1), 4, 13);
        fraction("13: odds(3)", x.odds(3, 0), x.odds(3, 1), 0, 1);
        FirstOut y = Due.told("t0 0 2 0;t0 0 4 0;t0 0 0 0;");
        fraction("13: odds(0) in least terms", y.odds(0, 0), y.odds(0, 1), 1, 3);
        fraction("13: odds(1) in least terms", y.odds(1, 0), y.odds(1, 1), 2, 3);
        fraction("13: odds(2) of none eager", y.odds(2, 0), y.odds(2, 1), 0, 1);
        due.is("13: odds(5, 0)", x.odds(5, 0), FirstOut.BAD);
        due.is("13: odds(-1, 0)", x.odds(-1, 0), FirstOut.BAD);
        due.is("13: odds(0, 2)", x.odds(0, 2), FirstOut.BAD);
        due.is("13: odds(0, -1)", x.odds(0, -1), FirstOut.BAD);
    }

    private static void swearIs(String text, int upper, int lower) {
        FirstOut x = Due.told(text);
        fraction("14: swear of " + text, x.swear(0), x.swear(1), upper, lower);
    }

    private static void swear() {
        swearIs(HOUSE, 6761, 130);
        swearIs("", 0, 1);
        swearIs("w5 5 100;", 50, 1);
        swearIs("w5 5 999;", 999, 2);
        swearIs("w10 0 999;t0 50 1 0;", -50, 1);
        swearIs("w7 0 999;t0 1 1 0;", -7, 10);
        swearIs("w3 2 4;t0 10 1 0;t1 0 2 0;", -13, 15);
        due.is("14: swear(-1)", new FirstOut().swear(-1), FirstOut.NO);
        due.is("14: swear(2)", new FirstOut().swear(2), FirstOut.NO);
    }

    private static void sense() {
        FirstOut x = Due.told(HOUSE);
        x.swears(3);
        int[] want = {31, 15, 5, 0, 0, 0};
        for (int k = 0; k < want.length; k++) {
            due.is("15: sense(" + k + ")", x.sense(k), want[k]);
        }
        x.day(0);
        due.is("15: sense(0) of one given up", x.sense(0), 31 & ~x.now(4));
        due.is("15: now(4)", x.now(4), 1);
        due.is("15: sense(5)", Due.told("t31 1 1 1;t15 1 1 1;v31;").sense(5), 1);
        due.is("15: sense(-1)", x.sense(-1), FirstOut.BAD);
        due.is("15: sense(6)", x.sense(6), FirstOut.BAD);
    }

    private static void both() {
        FirstOut x = Due.told(HOUSE);
        due.is("16: both(0)", x.both(0), 15);
        due.is("16: both(2)", x.both(2), 5);
        due.is("16: both(8)", x.both(8), 4);
        due.is("16: both(31)", x.both(31), 0);
        x.day(0);
        due.is("16: both(2) of one given up", x.both(2), 4);
        due.is("16: both(-1)", x.both(-1), FirstOut.BAD);
        due.is("16: both(32)", x.both(32), FirstOut.BAD);
        due.is("16: now(1)", x.now(1), 1);
    }

    private static void means() {
        FirstOut fewest = Due.told("t7 1 1 0;t1 1 1 0;t2 1 1 0;");
        due.is("17: means(1), fewer before less", fewest.means(1), 4);
        due.is("17: means(3)", fewest.means(3), 1);
        due.is("17: means(7)", fewest.means(7), 0);
        due.is("17: means(0)", fewest.means(0), FirstOut.NONE);
        due.is("17: means(8)", fewest.means(8), FirstOut.BAD);
        due.is("17: means(-1)", fewest.means(-1), FirstOut.BAD);
        due.is("17: means(1), the least", Due.told("t3 1 1 0;t0 1 1 0;").means(1), 1);
        due.is("17: means(1), all traits", Due.told(NEAR).means(1), 31);
        FirstOut knows = Due.told("t1 5 1 1;t3 5 1 0;t4 5 0 0;v31;");
        due.is("17: means(2), one knows, one is not eager", knows.means(2), 0);
        due.is("17: means(1), it knows", knows.means(1), FirstOut.NONE);
        due.is("17: means(4), it is not eager", knows.means(4), FirstOut.NONE);
        knows.keepsIn(1, 1);
        due.is("17: means(2), kept in", knows.means(2), FirstOut.NONE);
        FirstOut given = Due.told(TWO);
        given.day(0);
        due.is("17: means(1), given up", given.means(1), FirstOut.NONE);
        due.is("17: means(2)", given.means(2), 0);
        due.is("17: now(1)", given.now(1), 0);
        due.is("17: means(1) of none", new FirstOut().means(1), FirstOut.BAD);
    }

    private static void span() {
        due.is("18: span(), fewer before less", Due.told("t7 1 1 0;t1 1 1 0;t2 1 1 0;").span(), 4);
        due.is("18: span(), the least", Due.told("t3 1 0 1;t0 1 1 0;").span(), 1);
        due.is("18: span() of one", Due.told("t3 1 0 1;").span(), 0);
        due.is("18: span() of alike", Due.told("t3 1 1 0;t3 1 1 0;").span(), FirstOut.NONE);
        due.is("18: span(), all traits", Due.told(NEAR).span(), 31);
        due.is("18: span() of none", new FirstOut().span(), FirstOut.NONE);
        FirstOut x = Due.told("t3 1 1 0;t3 1 1 0;");
        x.day(0);
        due.is("18: span() of one left", x.span(), 0);
    }

    private static void shutIs(FirstOut x, int n, int which, int upper, int lower) {
        due.is("19: shut(" + n + ", 0)", x.shut(n, 0), which);
        fraction("19: shut(" + n + ")", x.shut(n, 1), x.shut(n, 2), upper, lower);
    }

    private static void shut() {
        FirstOut x = Due.told(HOUSE);
        shutIs(x, 0, 0, 427, 13);
        shutIs(x, 1, 2, 13, 1);
        shutIs(x, 3, 7, 0, 1);
        shutIs(x, 7, 7, 0, 1);
        FirstOut alike = Due.told("t1 10 1 0;t1 10 1 0;t0 0 1 0;v1;");
        shutIs(alike, 1, 1, 5, 1);
        shutIs(alike, 7, 3, 0, 1);
        shutIs(Due.told("t1 10 1 0;v2;"), 7, 0, 0, 1);
        shutIs(Due.told("t1 10 1 1;t1 10 0 0;v1;"), 7, 0, 0, 1);
        shutIs(Due.told("t1 9 1 0;t1 9 1 0;v1;"), 1, 0, 9, 1);
        alike.keepsIn(0, 1);
        shutIs(alike, 1, 2, 0, 1);
        due.is("19: now(3)", alike.now(3), 6);
        due.is("19: shut(-1, 0)", x.shut(-1, 0), FirstOut.BAD);
        due.is("19: shut(8, 0)", x.shut(8, 0), FirstOut.BAD);
        due.is("19: shut(0, -1)", x.shut(0, -1), FirstOut.BAD);
        due.is("19: shut(0, 3)", x.shut(0, 3), FirstOut.BAD);
    }

    private static void tell() {
        FirstOut x = Due.told(HOUSE);
        due.is("20: tell()", x.tell(), 7);
        x.keepsIn(1, 1);
        due.is("20: tell() with one kept in", x.tell(), 5);
        x.tells(0, 1);
        due.is("20: tell() with one told", x.tell(), 4);
        due.is("20: tell() of one that is not dear", Due.told("t1 0 1 0;t1 1 1 0;v1;").tell(), 2);
        due.is("20: tell() of one not eager", Due.told("t1 9 0 0;v1;").tell(), 0);
        due.is("20: tell() of none", new FirstOut().tell(), 0);
    }

    private static void saw() {
        FirstOut x = Due.told(TWO);
        due.is("21: saw(0, 1)", x.saw(0, 1), 1);
        due.is("21: saw(-1, 0)", x.saw(-1, 0), FirstOut.BAD);
        due.is("21: saw(2, 0)", x.saw(2, 0), FirstOut.BAD);
        due.is("21: saw(0, -1)", x.saw(0, -1), FirstOut.BAD);
        due.is("21: saw(0, 2)", x.saw(0, 2), FirstOut.BAD);
        for (int n = 2; n <= 6; n++) {
            due.is("21: saw(0, 1)", x.saw(0, 1), n);
        }
        due.is("21: saw(0, 1) of 7", x.saw(0, 1), FirstOut.FULL);
        due.is("21: saw(2, 1) of 7", x.saw(2, 1), FirstOut.BAD);
        due.is("21: count(4)", x.count(4), 6);
        due.is("21: now(6)", x.now(6), 0);
    }

    private static void forget() {
        FirstOut x = Due.told(TWO);
        due.is("22: forget() of none", x.forget(), 0);
        x.saw(0, 1);
        x.saw(0, 0);
        due.is("22: fit(0)", x.fit(0), 0);
        due.is("22: forget()", x.forget(), 2);
        due.is("22: count(4)", x.count(4), 0);
        due.is("22: fit(0) then", x.fit(0), 32);
        due.is("22: saw(1, 1)", x.saw(1, 1), 1);
    }

    private static void fitIs(FirstOut x, int howMany, int least, int shared) {
        due.is("23: fit(0)", x.fit(0), howMany);
        due.is("23: fit(1)", x.fit(1), least);
        due.is("23: fit(2)", x.fit(2), shared);
    }

    private static void fit() {
        FirstOut x = Due.told(HOUSE);
        fitIs(x, 32, 0, 0);
        x.saw(0, 1);
        fitIs(x, 4, 0, 0);
        x.saw(1, 0);
        fitIs(x, 2, 2, 2);
        x.saw(2, 0);
        fitIs(x, 0, FirstOut.NONE, FirstOut.NONE);
        FirstOut y = Due.told("t7 1 1 0;t3 1 1 0;t5 1 1 0;v31;");
        y.saw(0, 1);
        y.saw(1, 0);
        y.saw(2, 0);
        fitIs(y, 2, 6, 6);
        FirstOut given = Due.told("t3 1 1 0;t0 1 0 1;");
        given.day(0);
        given.saw(0, 1);
        fitIs(given, 4, 0, 0);
        given.saw(1, 0);
        fitIs(given, 3, 1, 0);
        due.is("23: fit(-1)", x.fit(-1), FirstOut.BAD);
        due.is("23: fit(3)", x.fit(3), FirstOut.BAD);
    }

    private static void lost() {
        FirstOut x = Due.told(HOUSE);
        due.is("24: lost(5, 0)", x.lost(5, 0), 0);
        due.is("24: lost(5, 1)", x.lost(5, 1), 2);
        due.is("24: lost(5, 3)", x.lost(5, 3), 7);
        due.is("24: lost(9999, 1)", x.lost(9999, 1), 1);
        due.is("24: lost(9999, 2), on from 0", x.lost(9999, 2), 5);
        due.is("24: now(0)", x.now(0), 0);
        due.is("24: now(4)", x.now(4), 0);
        due.is("24: now(6)", x.now(6), 0);
        x.day(0);
        due.is("24: lost(5, 0), given up before", x.lost(5, 0), 1);
        for (int z = 9950; z <= 9999; z++) {
            foreseen(z);
        }
        due.is("24: lost(-1, 0)", x.lost(-1, 0), FirstOut.BAD);
        due.is("24: lost(10000, 0)", x.lost(10000, 0), FirstOut.BAD);
        due.is("24: lost(0, -1)", x.lost(0, -1), FirstOut.BAD);
        due.is("24: lost(0, 8)", x.lost(0, 8), FirstOut.BAD);
    }

    private static void foreseen(int z) {
        FirstOut x = Due.told(HOUSE);
        for (int n = 0; n < 7; n++) {
            int next = z + n < 10000 ? z + n : z + n - 10000;
            FirstOut y = Due.told(HOUSE);
            x.day(next);
            due.is("24: lost(" + z + ", " + (n + 1) + ") as it comes", y.lost(z, n + 1), x.now(4));
        }
    }

    private static void draw() {
        FirstOut x = Due.told(TWO);
        x.swears(31);
        due.is("25: draw(0, 0)", x.draw(0, 0), 260);
        due.is("25: draw(0, 1)", x.draw(0, 1), 0);
        due.is("25: draw(1, 0)", x.draw(1, 0), 240);
        due.is("25: draw(1, 1)", x.draw(1, 1), 2);
        x.day(0);
        due.is("25: draw(0, 0) on the next day", x.draw(0, 0), 237);
        due.is("25: now(0)", x.now(0), 1);
        x.keepsIn(0, 1);
        due.is("25: draw(0, 0) of one kept in", x.draw(0, 0), 0);
        due.is("25: draw(0, 1) of one kept in", x.draw(0, 1), FirstOut.NONE);
        due.is("25: draw(1, 0) of the only one", x.draw(1, 0), 500);
        x.keepsIn(1, 1);
        due.is("25: draw(1, 0) when none can", x.draw(1, 0), 0);
        due.is("25: draw(-1, 0)", x.draw(-1, 0), FirstOut.BAD);
        due.is("25: draw(2, 0)", x.draw(2, 0), FirstOut.BAD);
        due.is("25: draw(0, -1)", x.draw(0, -1), FirstOut.BAD);
        due.is("25: draw(0, 2)", x.draw(0, 2), FirstOut.BAD);
    }

    private static void rate() {
        FirstOut x = Due.told(HOUSE);
        x.day(7);
        x.day(7);
        int[] want = {10, 15, 7, 30, 9, 12};
        long[] traces = {1, 11, 101, 1011, 10101, 100001};
        long sum = 0;
        for (int kind = 0; kind < want.length; kind++) {
            due.is("26: rate(" + kind + ", 2)", x.rate(kind, 2), want[kind]);
            sum += traces[kind];
            due.is("30: trace() behind rate(" + kind + ", 2)", x.trace(), sum);
        }
        due.is("26: rate below 0", Due.told("t31 0 0 0;").rate(2, 0), -5);
        due.is("26: rate(-1, 0)", x.rate(-1, 0), FirstOut.NO);
        due.is("26: rate(6, 0)", x.rate(6, 0), FirstOut.NO);
        due.is("26: rate(0, -1)", x.rate(0, -1), FirstOut.NO);
        due.is("26: rate(3, 5)", x.rate(3, 5), FirstOut.NO);
        due.is("30: trace() behind NO", x.trace(), sum);
    }

    private static void keepAndBack() {
        FirstOut x = Due.told(HOUSE);
        due.is("27: keep(-1)", x.keep(-1), FirstOut.BAD);
        due.is("27: keep(2)", x.keep(2), FirstOut.BAD);
        due.is("28: back(-1)", x.back(-1), FirstOut.BAD);
        due.is("28: back(2)", x.back(2), FirstOut.BAD);
        due.is("28: back(0)", x.back(0), FirstOut.STATE);
        due.is("27: keep(0)", x.keep(0), 0);
        due.is("28: back(1)", x.back(1), FirstOut.STATE);
        x.day(0);
        x.swears(2);
        x.tells(1, 1);
        x.keepsIn(2, 1);
        due.is("27: keep(1)", x.keep(1), 1);
        due.is("27: now(6)", x.now(6), 4);
        x.saw(1, 1);
        due.is("28: back(0)", x.back(0), 0);
        due.is("28: now(1)", x.now(1), 1);
        due.is("28: now(4)", x.now(4), 0);
        due.is("28: now(3)", x.now(3), 23);
        due.is("28: thing(1, 3)", x.thing(1, 3), 0);
        due.is("28: thing(2, 4)", x.thing(2, 4), 0);
        due.is("28: count(4)", x.count(4), 1);
        due.is("28: undo()", x.undo(), FirstOut.STATE);
        due.is("28: back(1)", x.back(1), 1);
        due.is("28: now(1) of the other", x.now(1), 2);
        due.is("28: now(4) of the other", x.now(4), 1);
        due.is("28: thing(1, 3) of the other", x.thing(1, 3), 1);
        due.is("28: thing(2, 4) of the other", x.thing(2, 4), 1);
        x.day(1);
        due.is("28: back(2) changes nothing", x.back(2), FirstOut.BAD);
        due.is("28: now(6)", x.now(6), 1);
        due.is("27: keep(0) again", x.keep(0), 2);
        x.day(2);
        due.is("28: back(0) again", x.back(0), 2);
        due.is("28: back(0) once more", x.back(0), 2);
    }

    private static void count() {
        FirstOut x = Due.told(HOUSE);
        x.saw(0, 1);
        x.type(300);
        x.type('t');
        int[] want = {5, 4, 3, 250, 1, 1};
        for (int what = 0; what < want.length; what++) {
            due.is("29: count(" + what + ")", x.count(what), want[what]);
        }
        due.is("29: count(-1)", x.count(-1), FirstOut.BAD);
        due.is("29: count(6)", x.count(6), FirstOut.BAD);
    }

    private static void trace() {
        FirstOut x = Due.told(HOUSE);
        due.is("30: trace() at first", x.trace(), 0);
        x.rate(3, 1);
        x.rate(3, 1);
        due.is("30: trace() of two dogs", x.trace(), 2022);
        x.day(0);
        x.undo();
        due.is("30: trace() is not undone", x.trace(), 2022);
        x.house();
        due.is("30: trace() behind house()", x.trace(), 2022);
    }

    private static void sevenThings() {
        FirstOut x = Due.told("t1 10 1 0;t2 20 2 0;t4 30 3 0;t8 40 4 0;t16 50 5 0;t31 60 6 0;t0 70 7 0;w10 0 0;");
        due.is("5: thing(6, 1)", x.thing(6, 1), 70);
        due.is("5: thing(7, 1)", x.thing(7, 1), FirstOut.BAD);
        due.is("6: now(2) of seven", x.now(2), 127);
        due.is("6: now(3) of seven", x.now(3), 127);
        harmIs(x, 50, 1);
        fraction("13: odds(6)", x.odds(6, 0), x.odds(6, 1), 1, 4);
        due.is("15: sense(0) of seven", x.sense(0), 127);
        due.is("17: means(127)", x.means(127), 0);
        due.is("17: means(128)", x.means(128), FirstOut.BAD);
        shutIs(x, 1, 64, 130, 3);
        shutIs(x, 7, 127, 0, 1);
        due.is("20: tell() of seven", x.tell(), 127);
        int[] came = {4, 6, 3, 1, 0, 2, 5, FirstOut.NONE};
        for (int i = 0; i < came.length; i++) {
            due.is("10: day " + i + " of seven", x.day(10 * (i + 1)), came[i]);
        }
        due.is("6: now(5) of seven", x.now(5), 280);
        due.is("24: lost(0, 7) of seven", x.lost(0, 7), 127);
    }
}
