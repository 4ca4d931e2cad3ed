import java.util.Arrays;
import java.util.function.Supplier;

/**
 * The inputs of every call at the last value that may be, with its answer, and at the first that may not, with the
 * refusal and all as it was (promises 2 to 29).
 */
public final class CallBoundsTest {
    private static final String HOUSE = "t3 20 4 0;t5 99 3 0;t11 10 5 0;t1 40 2 1;t24 60 1 0;v1;w4 3 250;";
    private static final String THING = "t1 9 2 0;";

    interface OneInput {
        long on(FirstOut x, int input);
    }

    /** An input of a call from the least to the most that may be, and what the call answers at both ends. */
    record Bound(String name, int least, long atLeast, int most, long atMost, OneInput call) { }

    private static final Due due = new Due("CallBoundsTest");

    private static final Bound[] HOUSE_BOUNDS = {
        new Bound("5: thing(., 2)", 0, 4, 4, 1, (x, t) -> x.thing(t, 2)),
        new Bound("5: thing(4, .)", 0, 24, 7, 1, (x, what) -> x.thing(4, what)),
        new Bound("6: now(.)", 0, 0, 6, 3, FirstOut::now),
        new Bound("7: swears(.)", 0, 5, 31, 0, FirstOut::swears),
        new Bound("8: keepsIn(., 1)", 0, 1, 4, 0, (x, t) -> x.keepsIn(t, 1)),
        new Bound("8: keepsIn(0, .)", 0, 1, 1, 1, (x, is) -> x.keepsIn(0, is)),
        new Bound("9: tells(., 1)", 0, 0, 4, 0, (x, t) -> x.tells(t, 1)),
        new Bound("9: tells(3, .)", 0, 1, 1, 1, (x, is) -> x.tells(3, is)),
        new Bound("10: day(.)", 0, 1, 9999, 2, FirstOut::day),
        new Bound("12: harm(.)", 0, 347, 1, 9, FirstOut::harm),
        new Bound("13: odds(., 0)", 0, 0, 4, 1, (x, t) -> x.odds(t, 0)),
        new Bound("13: odds(4, .)", 0, 1, 1, 9, (x, what) -> x.odds(4, what)),
        new Bound("15: sense(.)", 0, 31, 5, 0, FirstOut::sense),
        new Bound("16: both(.)", 0, 15, 31, 0, FirstOut::both),
        new Bound("17: means(.)", 0, FirstOut.NONE, 31, 0, FirstOut::means),
        new Bound("19: shut(., 0)", 0, 0, 7, 6, (x, n) -> x.shut(n, 0)),
        new Bound("19: shut(0, .)", 0, 0, 2, 9, (x, what) -> x.shut(0, what)),
        new Bound("21: saw(., 1)", 0, 2, 4, 2, (x, t) -> x.saw(t, 1)),
        new Bound("21: saw(0, .)", 0, 2, 1, 2, (x, given) -> x.saw(0, given)),
        new Bound("23: fit(.)", 0, 8, 2, 0, FirstOut::fit),
        new Bound("24: lost(., 1)", 0, 2, 9999, 4, (x, z) -> x.lost(z, 1)),
        new Bound("24: lost(0, .)", 0, 0, 7, 6, (x, n) -> x.lost(0, n)),
        new Bound("25: draw(., 1)", 0, FirstOut.NONE, 4, 5, (x, t) -> x.draw(t, 1)),
        new Bound("25: draw(0, .)", 0, 0, 1, FirstOut.NONE, (x, what) -> x.draw(0, what)),
        new Bound("27: keep(.)", 0, 0, 1, 0, FirstOut::keep),
        new Bound("28: back(.)", 0, 0, 1, 1, FirstOut::back),
        new Bound("29: count(.)", 0, 5, 5, 2, FirstOut::count)};

    private static final Bound[] HOUSE_BOUNDS_WITH_NO = {
        new Bound("14: swear(.)", 0, 4321, 1, 90, FirstOut::swear),
        new Bound("26: rate(., 2)", 0, 10, 5, 10, (x, kind) -> x.rate(kind, 2)),
        new Bound("26: rate(4, .)", 0, 18, 4, 62, (x, t) -> x.rate(4, t))};

    public static void main(String[] args) {
        for (Bound bound : HOUSE_BOUNDS) {
            within(bound);
            beyond(bound, FirstOut.BAD, CallBoundsTest::house);
            beyond(bound, FirstOut.BAD, CallBoundsTest::laterHouse);
        }
        for (Bound bound : HOUSE_BOUNDS_WITH_NO) {
            within(bound);
            beyond(bound, FirstOut.NO, CallBoundsTest::house);
            beyond(bound, FirstOut.NO, CallBoundsTest::laterHouse);
        }
        for (int things = 0; things <= 7; things++) {
            thingsThereAre(things);
            setsThereAre(things);
        }
        bothWrong();
        badAheadOfState();
        badAheadOfFull();
        stateRefused();
        fullRefused();
        questionsChangeNothing();
        due.end();
    }

    /** One KEPT in, one SEEN, three to be UNDONE, DAY 0 and an IMAGE of DAY 1, two letters told. */
    private static FirstOut house() {
        FirstOut x = Due.told(HOUSE);
        x.rate(5, 0);
        x.keep(0);
        x.day(0);
        x.keep(1);
        x.back(0);
        x.swears(3);
        x.swears(1);
        x.keepsIn(0, 1);
        x.saw(2, 1);
        Due.type(x, "v3");
        return x;
    }

    /** On DAY 4, two GIVEN up, ten to be UNDONE, another THING KNOWS. */
    private static FirstOut laterHouse() {
        FirstOut x = house();
        x.keepsIn(0, 0);
        x.tells(4, 1);
        for (int z = 0; z < 4; z++) {
            x.day(z);
        }
        x.tells(3, 0);
        x.swears(9);
        return x;
    }

    private static void within(Bound bound) {
        due.is(bound.name() + " of " + bound.least(), bound.call().on(house(), bound.least()), bound.atLeast());
        due.is(bound.name() + " of " + bound.most(), bound.call().on(house(), bound.most()), bound.atMost());
    }

    /** The first that may not be on either side, and those that would do if only some of their bits were looked at. */
    private static int[] wrongInputs(int least, int most) {
        return new int[] {
            least - 1, most + 1, Integer.MIN_VALUE, Integer.MAX_VALUE, Integer.MIN_VALUE + most, least - 32,
            least + 65536};
    }

    private static void beyond(Bound bound, int refusal, Supplier<FirstOut> scene) {
        for (int input : wrongInputs(bound.least(), bound.most())) {
            Whole.stays(due, bound.name() + " of " + input, scene, x -> bound.call().on(x, input), refusal);
        }
    }

    private static FirstOut alike(int things) {
        FirstOut x = Due.told(THING.repeat(things));
        x.saw(0, 1);
        x.keepsIn(0, 1);
        return x;
    }

    /** "there is no such thing": for each call that takes a THING, in houses of 0 to 7. */
    private static void thingsThereAre(int things) {
        OneInput[] calls = {
            (x, t) -> x.thing(t, 0), (x, t) -> x.keepsIn(t, 0), (x, t) -> x.tells(t, 1), (x, t) -> x.odds(t, 1),
            (x, t) -> x.saw(t, 0), (x, t) -> x.draw(t, 0), (x, t) -> x.rate(0, t)};
        String[] names = {"5: thing", "8: keepsIn", "9: tells", "13: odds", "21: saw", "25: draw", "26: rate"};
        // The first is KEPT in: if it is the only one, its ODDS are 0 by 1 and it has no DRAW.
        int[] eager = new int[things];
        Arrays.fill(eager, Math.min(1, things), things, 2);
        long[] atLast = {
            1, things == 1 ? 1 : 0, 0, Math.max(1, things - 1), 2, Door.draws(things - 1, 0, eager), 9};
        for (int i = 0; i < calls.length; i++) {
            OneInput call = calls[i];
            String name = names[i] + " in a house of " + things;
            if (things > 0) {
                due.is(name + ", the last", call.on(alike(things), things - 1), atLast[i]);
            }
            int refusal = names[i].equals("26: rate") ? FirstOut.NO : FirstOut.BAD;
            for (int t : wrongInputs(0, things - 1)) {
                Whole.stays(due, name + ", " + t, () -> alike(things), x -> call.on(x, t), refusal);
            }
        }
    }

    /** "bits of THINGS there are". */
    private static void setsThereAre(int things) {
        String name = "17: means in a house of " + things;
        due.is(name + ", none meant", Due.told(THING.repeat(things)).means(0), FirstOut.NONE);
        due.is(name + ", all meant", Due.told(THING.repeat(things)).means((1 << things) - 1),
            things == 0 ? FirstOut.NONE : 0);
        for (int set : wrongInputs(0, (1 << things) - 1)) {
            Whole.stays(due, name + ", " + set, () -> alike(things), x -> x.means(set), FirstOut.BAD);
        }
    }

    private static void refused(String name, Supplier<FirstOut> scene, Whole.Call call, int refusal) {
        Whole.stays(due, name, scene, call, refusal);
    }

    private static void bothWrong() {
        refused("5: thing(5, 8)", CallBoundsTest::house, x -> x.thing(5, 8), FirstOut.BAD);
        refused("8: keepsIn(-1, 2)", CallBoundsTest::house, x -> x.keepsIn(-1, 2), FirstOut.BAD);
        refused("9: tells(5, -1)", CallBoundsTest::house, x -> x.tells(5, -1), FirstOut.BAD);
        refused("13: odds(5, 2)", CallBoundsTest::house, x -> x.odds(5, 2), FirstOut.BAD);
        refused("19: shut(8, 3)", CallBoundsTest::house, x -> x.shut(8, 3), FirstOut.BAD);
        refused("21: saw(5, 2)", CallBoundsTest::house, x -> x.saw(5, 2), FirstOut.BAD);
        refused("24: lost(10000, 8)", CallBoundsTest::house, x -> x.lost(10000, 8), FirstOut.BAD);
        refused("25: draw(-1, -1)", CallBoundsTest::house, x -> x.draw(-1, -1), FirstOut.BAD);
        refused("26: rate(6, 5)", CallBoundsTest::house, x -> x.rate(6, 5), FirstOut.NO);
    }

    private static void badAheadOfState() {
        refused("28: back(2), none was kept", () -> alike(2), x -> x.back(2), FirstOut.BAD);
        refused("28: back(-1), none was kept", () -> alike(2), x -> x.back(-1), FirstOut.BAD);
    }

    private static FirstOut sawSix() {
        FirstOut x = Due.told(HOUSE);
        for (int t = 0; t < 3; t++) {
            x.saw(t, 1);
            x.saw(4, 0);
        }
        return x;
    }

    private static void badAheadOfFull() {
        refused("21: saw(5, 1) of a 7th", CallBoundsTest::sawSix, x -> x.saw(5, 1), FirstOut.BAD);
        refused("21: saw(-1, 1) of a 7th", CallBoundsTest::sawSix, x -> x.saw(-1, 1), FirstOut.BAD);
        refused("21: saw(0, 2) of a 7th", CallBoundsTest::sawSix, x -> x.saw(0, 2), FirstOut.BAD);
        refused("21: saw(0, -1) of a 7th", CallBoundsTest::sawSix, x -> x.saw(0, -1), FirstOut.BAD);
    }

    private static FirstOut oneImage(int image) {
        FirstOut x = Due.told(HOUSE);
        x.swears(2);
        x.keep(image);
        x.day(3);
        return x;
    }

    private static void stateRefused() {
        refused("28: back(0) of a new one", FirstOut::new, x -> x.back(0), FirstOut.STATE);
        refused("28: back(1) of a new one", FirstOut::new, x -> x.back(1), FirstOut.STATE);
        refused("28: back(0), 1 was kept", () -> oneImage(1), x -> x.back(0), FirstOut.STATE);
        refused("28: back(1), 0 was kept", () -> oneImage(0), x -> x.back(1), FirstOut.STATE);
        refused("11: undo() of a new one", FirstOut::new, FirstOut::undo, FirstOut.STATE);
        refused("11: undo() of one just told", () -> Due.told(HOUSE), FirstOut::undo, FirstOut.STATE);
        Supplier<FirstOut> behindBack = () -> {
            FirstOut x = laterHouse();
            x.back(1);
            return x;
        };
        refused("11: undo() behind back()", behindBack, FirstOut::undo, FirstOut.STATE);
    }

    private static void fullRefused() {
        for (int t = 0; t < 5; t++) {
            int who = t;
            refused("21: a 7th saw(" + t + ", 0)", CallBoundsTest::sawSix, x -> x.saw(who, 0), FirstOut.FULL);
            refused("21: a 7th saw(" + t + ", 1)", CallBoundsTest::sawSix, x -> x.saw(who, 1), FirstOut.FULL);
        }
    }

    /** "As things are NOW; nothing is changed": at both ends of what may be asked. */
    private static void questionsChangeNothing() {
        for (Bound bound : HOUSE_BOUNDS) {
            String call = bound.name().substring(bound.name().indexOf(' ') + 1);
            if (call.matches("(thing|now|harm|odds|sense|both|means|shut|fit|lost|draw|count)\\(.*")) {
                staysAsked(bound);
            }
        }
        staysAsked(HOUSE_BOUNDS_WITH_NO[0]);
        staysAsked("18: span()", FirstOut::span);
        staysAsked("20: tell()", FirstOut::tell);
        staysAsked("30: trace()", FirstOut::trace);
    }

    private static void staysAsked(Bound bound) {
        staysAsked(bound.name() + " asked at the least", x -> bound.call().on(x, bound.least()));
        staysAsked(bound.name() + " asked at the most", x -> bound.call().on(x, bound.most()));
    }

    private static void staysAsked(String name, Whole.Call call) {
        Whole.stays(due, name, CallBoundsTest::laterHouse, call, call.on(laterHouse()));
    }
}
