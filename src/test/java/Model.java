import java.util.ArrayDeque;
import java.util.ArrayList;
import java.util.Arrays;
import java.util.Comparator;
import java.util.Deque;
import java.util.List;
import java.util.Optional;
import java.util.function.IntPredicate;
import java.util.regex.Matcher;
import java.util.regex.Pattern;
import java.util.stream.Collectors;
import java.util.stream.IntStream;

/** The document's terms once more, slowly and by other ways, to hold the class against in long random runs. */
final class Model {
    private static final int BAD = -1, STATE = -2, FULL = -3, NONE = -9, NO = -1000000;

    record Thing(int traits, int dear, int eager) { }

    record Glimpse(int thing, boolean given) { }

    record Token(String text, int place) { }

    record Now(int words, List<Boolean> knows, List<Boolean> kept, List<Boolean> given, int day) { }

    record Ratio(long upper, long lower) implements Comparable<Ratio> {
        static Ratio of(long upper, long lower) {
            for (long d = lower; d > 1; d--) {
                if (upper % d == 0 && lower % d == 0) {
                    return new Ratio(upper / d, lower / d);
                }
            }
            return new Ratio(upper, lower);
        }

        int part(int what) {
            return (int) (what == 0 ? upper : lower);
        }

        @Override
        public int compareTo(Ratio other) {
            return Long.compare(upper * other.lower, other.upper * lower);
        }
    }

    private String text = "";
    private List<Thing> things = new ArrayList<>();
    private int[] war = {5, 0, 100};
    private Now now = new Now(0, List.of(), List.of(), List.of(), 0);
    private final Deque<Now> past = new ArrayDeque<>();
    private final Now[] images = new Now[2];
    private final List<Glimpse> seen = new ArrayList<>();
    private final long[] asked = new long[6];

    int type(int letter) {
        if (letter < 0 || letter > 255) {
            return BAD;
        }
        if (text.length() == 200) {
            return FULL;
        }
        text += (char) letter;
        return text.length();
    }

    int clear() {
        int had = text.length();
        text = "";
        return had;
    }

    private static List<Token> tokens(String text) {
        List<Token> all = new ArrayList<>();
        Matcher m = Pattern.compile("[0-9]+|[^ ]", Pattern.DOTALL).matcher(text);
        while (m.find()) {
            all.add(new Token(m.group(), m.start()));
        }
        return all;
    }

    private static boolean isNumber(String token, int most) {
        return token.matches("0|[1-9][0-9]{0,2}") && Integer.parseInt(token) <= most;
    }

    int house() {
        List<Thing> newThings = new ArrayList<>();
        List<Boolean> newKnows = new ArrayList<>();
        int[] newWar = {5, 0, 100};
        int newWords = 0;
        String open = "";
        List<Integer> numbers = new ArrayList<>();
        StringBuilder begun = new StringBuilder();
        for (Token token : tokens(text)) {
            int[] limits = switch (open) {
                case "t" -> new int[] {31, 99, 9, 1};
                case "v" -> new int[] {31};
                case "w" -> new int[] {10, numbers.isEmpty() ? 0 : 10 - numbers.get(0), 999};
                default -> new int[0];
            };
            boolean fine;
            if (open.isEmpty()) {
                boolean again = begun.indexOf(token.text()) >= 0;
                fine = token.text().equals("t") && newThings.size() < 7
                    || token.text().equals("v") && !again || token.text().equals("w") && !again;
                open = token.text();
                begun.append(open);
                numbers.clear();
            } else if (numbers.size() < limits.length) {
                fine = isNumber(token.text(), limits[numbers.size()]);
                if (fine) {
                    numbers.add(Integer.parseInt(token.text()));
                }
            } else {
                fine = token.text().equals(";");
                if (open.equals("t")) {
                    newThings.add(new Thing(numbers.get(0), numbers.get(1), numbers.get(2)));
                    newKnows.add(numbers.get(3) == 1);
                } else if (open.equals("v")) {
                    newWords = numbers.get(0);
                } else {
                    newWar = numbers.stream().mapToInt(Integer::intValue).toArray();
                }
                open = "";
            }
            if (!fine) {
                return -10 - token.place();
            }
        }
        if (!open.isEmpty()) {
            return -10 - text.length();
        }
        things = newThings;
        war = newWar;
        List<Boolean> nobody = things.stream().map(t -> false).collect(Collectors.toList());
        now = new Now(newWords, newKnows, nobody, nobody, 0);
        past.clear();
        seen.clear();
        Arrays.fill(images, null);
        text = "";
        return begun.length();
    }

    private boolean covers(Now n, int t) {
        return !n.given().get(t) && IntStream.range(0, 5)
            .filter(trait -> (n.words() >> trait & 1) == 1)
            .allMatch(trait -> (things.get(t).traits() >> trait & 1) == 1);
    }

    private boolean can(Now n, int t) {
        return !n.given().get(t) && !n.kept().get(t) && things.get(t).eager() > 0
            && !(n.knows().get(t) && covers(n, t));
    }

    private int bits(IntPredicate so) {
        return IntStream.range(0, things.size()).filter(so).map(t -> 1 << t).sum();
    }

    private static List<Boolean> with(List<Boolean> row, int t, boolean is) {
        List<Boolean> changed = new ArrayList<>(row);
        changed.set(t, is);
        return changed;
    }

    private List<Boolean> with(List<Boolean> row, int set) {
        return IntStream.range(0, row.size()).mapToObj(t -> row.get(t) || (set >> t & 1) == 1)
            .collect(Collectors.toList());
    }

    private static Now swornTo(Now n, int words) {
        return new Now(words, n.knows(), n.kept(), n.given(), n.day());
    }

    private boolean isThing(int t) {
        return 0 <= t && t < things.size();
    }

    private static boolean within(int value, int least, int most) {
        return least <= value && value <= most;
    }

    private static int flag(boolean is) {
        return is ? 1 : 0;
    }

    int thing(int t, int what) {
        if (!isThing(t) || !within(what, 0, 7)) {
            return BAD;
        }
        Thing it = things.get(t);
        return List.of(it.traits(), it.dear(), it.eager(), flag(now.knows().get(t)), flag(now.kept().get(t)),
            flag(now.given().get(t)), flag(covers(now, t)), flag(can(now, t))).get(what);
    }

    int now(int what) {
        if (!within(what, 0, 6)) {
            return BAD;
        }
        int dear = IntStream.range(0, things.size()).filter(now.given()::get).map(t -> things.get(t).dear()).sum();
        return List.of(now.day(), now.words(), bits(t -> covers(now, t)), bits(t -> can(now, t)),
            bits(now.given()::get), dear, past.size()).get(what);
    }

    private void remember() {
        past.addLast(now);
        if (past.size() > 10) {
            past.removeFirst();
        }
    }

    int swears(int words) {
        if (!within(words, 0, 31)) {
            return BAD;
        }
        remember();
        now = swornTo(now, words);
        return (int) IntStream.range(0, things.size()).filter(t -> covers(now, t)).count();
    }

    int keepsIn(int t, int is) {
        if (!isThing(t) || !within(is, 0, 1)) {
            return BAD;
        }
        remember();
        boolean was = now.kept().get(t);
        now = new Now(now.words(), now.knows(), with(now.kept(), t, is == 1), now.given(), now.day());
        return flag(was);
    }

    int tells(int t, int is) {
        if (!isThing(t) || !within(is, 0, 1)) {
            return BAD;
        }
        remember();
        boolean was = now.knows().get(t);
        now = new Now(now.words(), with(now.knows(), t, is == 1), now.kept(), now.given(), now.day());
        return flag(was);
    }

    private int first(Now n, int z) {
        List<Integer> queue = new ArrayList<>();
        for (int t = 0; t < things.size(); t++) {
            for (int i = 0; can(n, t) && i < things.get(t).eager(); i++) {
                queue.add(t);
            }
        }
        long x = 7919L * z + 4253L * n.day() + 1;
        return queue.isEmpty() ? NONE : queue.get((int) (x * x % 65521 / 8 % queue.size()));
    }

    private Now dayLater(Now n, int z) {
        int t = first(n, z);
        List<Boolean> given = t != NONE && covers(n, t) ? with(n.given(), t, true) : n.given();
        return new Now(n.words(), n.knows(), n.kept(), given, n.day() + 1);
    }

    int day(int z) {
        if (!within(z, 0, 9999)) {
            return BAD;
        }
        if (now.day() == 999) {
            return STATE;
        }
        remember();
        int t = first(now, z);
        now = dayLater(now, z);
        return t;
    }

    int undo() {
        if (past.isEmpty()) {
            return STATE;
        }
        now = past.removeLast();
        return past.size();
    }

    private Ratio chanceOf(Now n, int t) {
        int all = IntStream.range(0, things.size()).filter(o -> can(n, o)).map(o -> things.get(o).eager()).sum();
        return can(n, t) ? Ratio.of(things.get(t).eager(), all) : new Ratio(0, 1);
    }

    private Ratio harmOf(Now n) {
        Ratio sum = new Ratio(0, 1);
        for (int t = 0; t < things.size(); t++) {
            Ratio chance = chanceOf(n, t);
            long dear = covers(n, t) ? things.get(t).dear() : 0;
            sum = Ratio.of(sum.upper() * chance.lower() + chance.upper() * dear * sum.lower(),
                sum.lower() * chance.lower());
        }
        return sum;
    }

    int harm(int what) {
        return within(what, 0, 1) ? harmOf(now).part(what) : BAD;
    }

    int odds(int t, int what) {
        return isThing(t) && within(what, 0, 1) ? chanceOf(now, t).part(what) : BAD;
    }

    int swear(int what) {
        Ratio h = harmOf(now);
        long upper = (long) war[1] * war[2] * h.lower() - (war[0] + war[1]) * h.upper();
        return within(what, 0, 1) ? Ratio.of(upper, 10 * h.lower()).part(what) : NO;
    }

    int sense(int k) {
        return within(k, 0, 5)
            ? bits(t -> !now.given().get(t) && Integer.bitCount(things.get(t).traits() & now.words()) >= k) : BAD;
    }

    int both(int words) {
        return within(words, 0, 31) ? bits(t -> covers(now, t) && covers(swornTo(now, words), t)) : BAD;
    }

    private static int fewest(int below, IntPredicate so) {
        Optional<Integer> best = IntStream.range(0, below).filter(so).boxed()
            .min(Comparator.<Integer>comparingInt(Integer::bitCount).thenComparingInt(w -> w));
        return best.orElse(NONE);
    }

    int means(int set) {
        if (!within(set, 0, (1 << things.size()) - 1)) {
            return BAD;
        }
        return fewest(32, words -> {
            Now n = swornTo(now, words);
            int hit = bits(t -> can(n, t) && covers(n, t));
            return hit != 0 && (hit | set) == set;
        });
    }

    int span() {
        return fewest(32, words -> Integer.bitCount(bits(t -> covers(swornTo(now, words), t))) == 1);
    }

    private Now shutIn(int set) {
        return new Now(now.words(), now.knows(), with(now.kept(), set), now.given(), now.day());
    }

    int shut(int n, int what) {
        if (!within(n, 0, 7) || !within(what, 0, 2)) {
            return BAD;
        }
        int able = bits(t -> can(now, t));
        int best = IntStream.range(0, 1 << things.size()).boxed()
            .filter(set -> (set | able) == able && Integer.bitCount(set) <= n)
            .min(Comparator.<Integer, Ratio>comparing(set -> harmOf(shutIn(set)))
                .thenComparingInt(Integer::bitCount).thenComparingInt(set -> set)).orElseThrow();
        return what == 0 ? best : harmOf(shutIn(best)).part(what - 1);
    }

    int tell() {
        return fewest(1 << things.size(), set -> harmOf(
            new Now(now.words(), with(now.knows(), set), now.kept(), now.given(), now.day())).upper() == 0);
    }

    int saw(int t, int given) {
        if (!isThing(t) || !within(given, 0, 1)) {
            return BAD;
        }
        if (seen.size() == 6) {
            return FULL;
        }
        seen.add(new Glimpse(t, given == 1));
        return seen.size();
    }

    int forget() {
        int had = seen.size();
        seen.clear();
        return had;
    }

    int fit(int what) {
        if (!within(what, 0, 2)) {
            return BAD;
        }
        List<Integer> fitting = IntStream.range(0, 32).boxed()
            .filter(w -> seen.stream().allMatch(s -> s.given() == ((w & ~things.get(s.thing()).traits()) == 0)))
            .collect(Collectors.toList());
        if (what == 0) {
            return fitting.size();
        }
        return fitting.isEmpty() ? NONE : what == 1 ? fitting.get(0) : fitting.stream().reduce(31, (a, b) -> a & b);
    }

    int lost(int z, int n) {
        if (!within(z, 0, 9999) || !within(n, 0, 7)) {
            return BAD;
        }
        Now n2 = now;
        int next = z;
        for (int i = 0; i < n; i++) {
            n2 = dayLater(n2, next);
            next = next == 9999 ? 0 : next + 1;
        }
        return bits(n2.given()::get);
    }

    int draw(int t, int what) {
        if (!isThing(t) || !within(what, 0, 1)) {
            return BAD;
        }
        int[] hits = IntStream.range(0, 500).filter(z -> first(now, z) == t).toArray();
        return what == 0 ? hits.length : hits.length == 0 ? NONE : hits[0];
    }

    private int rated(int kind, int t) {
        asked[kind]++;
        Thing it = things.get(t);
        return switch (kind) {
            case 0 -> it.dear();
            case 1 -> rated(0, t) + it.eager();
            case 2 -> rated(0, t) - Integer.bitCount(it.traits());
            case 3 -> 2 * rated(1, t);
            case 4 -> rated(2, t) + t;
            default -> rated(0, t) + now.day();
        };
    }

    int rate(int kind, int t) {
        return within(kind, 0, 5) && isThing(t) ? rated(kind, t) : NO;
    }

    int keep(int image) {
        if (!within(image, 0, 1)) {
            return BAD;
        }
        images[image] = now;
        return now.day();
    }

    int back(int image) {
        if (!within(image, 0, 1)) {
            return BAD;
        }
        if (images[image] == null) {
            return STATE;
        }
        now = images[image];
        past.clear();
        return now.day();
    }

    int count(int what) {
        return within(what, 0, 5)
            ? List.of(things.size(), war[0], war[1], war[2], seen.size(), text.length()).get(what) : BAD;
    }

    long trace() {
        long sum = 0;
        long weight = 1;
        for (long times : asked) {
            sum += times * weight;
            weight *= 10;
        }
        return sum;
    }
}
