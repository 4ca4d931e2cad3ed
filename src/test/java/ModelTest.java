import java.util.Random;

/** Long random runs, right and wrong inputs mixed, each answer held against the model's. */
public final class ModelTest {
    private static final int RUNS = 400;
    private static final int CALLS = 512;

    private static final Due due = new Due("ModelTest");

    private final Random random;
    private final FirstOut x = new FirstOut();
    private final Model m = new Model();
    private final int run;
    private int calls = 0;

    private ModelTest(int run) {
        this.run = run;
        this.random = new Random(run);
    }

    public static void main(String[] args) {
        for (int run = 0; run < RUNS; run++) {
            new ModelTest(run).go();
        }
        due.end();
    }

    private void go() {
        tellHouse(goodText());
        while (calls < CALLS) {
            if (random.nextInt(60) == 0) {
                tellHouse(random.nextInt(3) == 0 ? goodText() : spoilt(goodText()));
            }
            call(random.nextInt(31));
        }
    }

    private void same(String call, long got, long want) {
        calls++;
        due.is("run " + run + ", call " + calls + ": " + call, got, want);
    }

    private void tellHouse(String text) {
        same("clear()", x.clear(), m.clear());
        for (int i = 0; i < text.length(); i++) {
            same("type", x.type(text.charAt(i)), m.type(text.charAt(i)));
        }
        same("house() of '" + text + "'", x.house(), m.house());
    }

    private String blanks(boolean needed) {
        int few = random.nextInt(8);
        return " ".repeat(few == 0 ? 2 : few < 3 || needed ? 1 : 0);
    }

    private String goodText() {
        StringBuilder text = new StringBuilder();
        int things = random.nextInt(8);
        for (int t = 0; t < things; t++) {
            int dear = random.nextInt(4) == 0 ? random.nextInt(3) : random.nextInt(100);
            item(text, "t", random.nextInt(32), dear, random.nextInt(10), random.nextInt(4) / 3);
        }
        if (random.nextInt(4) > 0) {
            item(text, "v", 1 << random.nextInt(5) & random.nextInt(32));
        }
        if (random.nextInt(4) > 0) {
            int odds = random.nextInt(11);
            item(text, "w", odds, random.nextInt(11 - odds), random.nextInt(1000));
        }
        return text.toString();
    }

    private void item(StringBuilder text, String name, int... numbers) {
        text.append(name);
        for (int i = 0; i < numbers.length; i++) {
            text.append(blanks(i > 0)).append(numbers[i]);
        }
        text.append(blanks(false)).append(';').append(blanks(false));
    }

    private String spoilt(String text) {
        StringBuilder spoilt = new StringBuilder(text);
        int place = random.nextInt(text.length() + 1);
        String strange = "tvw; 0123456789x" + (char) 233 + (char) 0;
        char letter = strange.charAt(random.nextInt(strange.length()));
        switch (random.nextInt(4)) {
            case 0 -> spoilt.insert(place, letter);
            case 1 -> spoilt.setLength(place);
            case 2 -> spoilt.append(goodText());
            default -> {
                if (place < text.length()) {
                    spoilt.setCharAt(place, letter);
                }
            }
        }
        return spoilt.toString();
    }

    private int number(int most) {
        int strange = random.nextInt(40);
        if (strange == 0) {
            return random.nextInt();
        }
        return strange == 1 ? -1 : strange == 2 ? most + 1 : random.nextInt(most + 1);
    }

    private int aThing() {
        return number(Math.max(0, m.count(0) - 1));
    }

    private void call(int which) {
        int t = aThing();
        int flag = number(1);
        if (which < 16) {
            callEarly(which, t, flag);
        } else {
            callLate(which, t, flag);
        }
    }

    private void callEarly(int which, int t, int flag) {
        int a = number(7);
        int words = number(31);
        int z = number(9999);
        // Few words cover more, so that more is given up; the wrong ones stay as they are.
        int oath = words > 0 && words < 32 && random.nextBoolean() ? words & 5 : words;
        switch (which) {
            case 0 -> same("type(" + words + ")", x.type(words), m.type(words));
            case 1 -> same("now(" + a + ")", x.now(a), m.now(a));
            case 2, 3 -> same("thing(" + t + ", " + a + ")", x.thing(t, a), m.thing(t, a));
            case 4 -> same("now(3)", x.now(3), m.now(3));
            case 5 -> same("swears(" + oath + ")", x.swears(oath), m.swears(oath));
            case 6 -> same("keepsIn(" + t + ", " + flag + ")", x.keepsIn(t, flag), m.keepsIn(t, flag));
            case 7 -> same("tells(" + t + ", " + flag + ")", x.tells(t, flag), m.tells(t, flag));
            case 8, 9 -> same("day(" + z + ")", x.day(z), m.day(z));
            case 10 -> same("undo()", x.undo(), m.undo());
            case 11 -> same("harm(" + flag + ")", x.harm(flag), m.harm(flag));
            case 12 -> same("odds(" + t + ", " + flag + ")", x.odds(t, flag), m.odds(t, flag));
            case 13 -> same("swear(" + flag + ")", x.swear(flag), m.swear(flag));
            case 14 -> same("sense(" + a + ")", x.sense(a), m.sense(a));
            default -> same("both(" + words + ")", x.both(words), m.both(words));
        }
    }

    private void callLate(int which, int t, int flag) {
        int a = number(7);
        int part = number(2);
        int set = number((1 << m.count(0)) - 1);
        int z = random.nextInt(4) == 0 ? 9990 + random.nextInt(10) : number(9999);
        switch (which) {
            case 16 -> same("means(" + set + ")", x.means(set), m.means(set));
            case 17 -> same("span()", x.span(), m.span());
            case 18 -> same("shut(" + a + ", " + part + ")", x.shut(a, part), m.shut(a, part));
            case 19 -> same("tell()", x.tell(), m.tell());
            case 20, 21 -> same("saw(" + t + ", " + flag + ")", x.saw(t, flag), m.saw(t, flag));
            case 22 -> same("forget()", x.forget(), m.forget());
            case 23 -> same("fit(" + part + ")", x.fit(part), m.fit(part));
            case 24 -> same("lost(" + z + ", " + a + ")", x.lost(z, a), m.lost(z, a));
            case 25 -> same("draw(" + t + ", " + flag + ")", x.draw(t, flag), m.draw(t, flag));
            case 26 -> same("rate(" + a + ", " + t + ")", x.rate(a, t), m.rate(a, t));
            case 27 -> same("keep(" + flag + ")", x.keep(flag), m.keep(flag));
            case 28 -> same("back(" + flag + ")", x.back(flag), m.back(flag));
            case 29 -> same("count(" + a + ")", x.count(a), m.count(a));
            default -> same("trace()", x.trace(), m.trace());
        }
    }
}
