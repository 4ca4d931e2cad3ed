import java.util.function.Supplier;

/** All that can be seen of an object, as one text, so that "nothing changes" can be held against the whole of it. */
final class Whole {
    interface Call {
        long on(FirstOut x);
    }

    private Whole() { }

    /** The object is spent by it: what may be UNDONE is undone, both IMAGES are gone back to, the text is read. */
    static String of(FirstOut x) {
        StringBuilder all = new StringBuilder();
        rows(x, all);
        things(x, all);
        standing(x, all);
        // More steps than may be known, so that a past that never ends is seen, too.
        for (int left = 1, i = 0; left >= 0 && i < 12; i++) {
            left = x.undo();
            all.append("undo ").append(left).append(": ");
            standing(x, all);
        }
        for (int image = 0; image < 2; image++) {
            all.append("back ").append(x.back(image)).append(": ");
            standing(x, all);
        }
        all.append("house ").append(x.house()).append(": ");
        rows(x, all);
        things(x, all);
        return all.toString();
    }

    private static void rows(FirstOut x, StringBuilder all) {
        for (int what = 0; what < 6; what++) {
            all.append(x.count(what)).append(' ');
        }
        for (int what = 0; what < 3; what++) {
            all.append(x.fit(what)).append(' ');
        }
        all.append(x.trace()).append('\n');
    }

    private static void things(FirstOut x, StringBuilder all) {
        int things = x.count(0);
        for (int t = 0; t < things; t++) {
            for (int what = 0; what < 3; what++) {
                all.append(x.thing(t, what)).append(' ');
            }
        }
        all.append('\n');
    }

    private static void standing(FirstOut x, StringBuilder all) {
        all.append(x.now(0)).append(' ').append(x.now(1)).append(' ').append(x.now(4)).append(' ').append(x.now(6));
        int things = x.count(0);
        for (int t = 0; t < things; t++) {
            all.append(' ').append(x.thing(t, 3)).append(x.thing(t, 4));
        }
        all.append('\n');
    }

    /** A call answers as is due and leaves its object as one is that was made alike and not called. */
    static void stays(Due due, String name, Supplier<FirstOut> scene, Call call, long want) {
        FirstOut called = scene.get();
        due.is(name, call.on(called), want);
        due.is(name + " changes nothing", of(called), of(scene.get()));
    }
}
