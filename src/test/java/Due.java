/** Counts the answers that are due and tells those that are not so. */
final class Due {
    private final String name;
    private int right = 0;
    private int wrong = 0;

    Due(String name) {
        this.name = name;
    }

    void is(String call, long got, long want) {
        if (got == want) {
            right++;
            return;
        }
        wrong++;
        System.out.println(name + ", " + call + " answered " + got + ", due is " + want);
    }

    void is(String what, String got, String want) {
        if (got.equals(want)) {
            right++;
            return;
        }
        wrong++;
        System.out.println(name + ", " + what + " is\n" + got + "due is\n" + want);
    }

    void isTrue(String what, boolean so) {
        is(what, so ? 1 : 0, 1);
    }

    void end() {
        System.out.println(name + ": " + right + " passed, " + wrong + " failed");
        if (wrong != 0 || right == 0) {
            System.exit(1);
        }
    }

    static void type(FirstOut x, String text) {
        for (int i = 0; i < text.length(); i++) {
            x.type(text.charAt(i));
        }
    }

    static FirstOut told(String text) {
        FirstOut x = new FirstOut();
        type(x, text);
        if (x.house() < 0) {
            throw new IllegalStateException("the test's own text is faulty: " + text);
        }
        return x;
    }
}
