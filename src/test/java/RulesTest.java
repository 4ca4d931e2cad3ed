import com.sun.management.ThreadMXBean;
import java.io.IOException;
import java.lang.management.ManagementFactory;
import java.lang.reflect.Field;
import java.lang.reflect.Method;
import java.lang.reflect.Modifier;
import java.nio.file.Files;
import java.nio.file.Path;
import java.util.Arrays;
import java.util.Random;
import java.util.Set;
import java.util.TreeSet;
import java.util.regex.Pattern;
import java.util.stream.Collectors;

/** What of the rules of the language and of the face can be looked at from outside; run from the project's folder. */
public final class RulesTest {
    private static final Path SOURCE = Path.of("src", "main", "java", "FirstOut.java");
    private static final String[] FACE = {
        "int type(int)", "int clear()", "int house()", "int thing(int,int)", "int now(int)", "int swears(int)",
        "int keepsIn(int,int)", "int tells(int,int)", "int day(int)", "int undo()", "int harm(int)",
        "int odds(int,int)", "int swear(int)", "int sense(int)", "int both(int)", "int means(int)", "int span()",
        "int shut(int,int)", "int tell()", "int saw(int,int)", "int forget()", "int fit(int)", "int lost(int,int)",
        "int draw(int,int)", "int rate(int,int)", "int keep(int)", "int back(int)", "int count(int)",
        "long trace()"};
    private static final String[] BARRED = {
        "\\bthrow\\b", "\\bthrows\\b", "\\btry\\b", "\\bcatch\\b", "\\bfinally\\b", "\\bsynchronized\\b",
        "\\bassert\\b", "->", "::", "\\bimport\\b", "\\bpackage\\b", "Exact\\b", "\\bObject\\b", "\\bSystem\\b",
        "\\bhashCode\\b", "\\bstatic\\s*\\{", "[^\\x00-\\x7f]"};

    private static final Due due = new Due("RulesTest");

    public static void main(String[] args) throws IOException, ReflectiveOperationException {
        face();
        constants();
        sizes();
        barredWords();
        methodLengths();
        neverThrows();
        room();
        due.end();
    }

    private static String signature(Method method) {
        String types = Arrays.stream(method.getParameterTypes()).map(Class::getName).collect(Collectors.joining(","));
        return method.getReturnType().getName() + " " + method.getName() + "(" + types + ")";
    }

    private static void face() {
        Set<String> open = new TreeSet<>();
        Set<String> openNames = new TreeSet<>();
        for (Method method : FirstOut.class.getDeclaredMethods()) {
            if (!Modifier.isPrivate(method.getModifiers())) {
                open.add(signature(method));
                openNames.add(method.getName());
                due.isTrue(method + " is public and not static",
                    Modifier.isPublic(method.getModifiers()) && !Modifier.isStatic(method.getModifiers()));
            }
        }
        due.isTrue("the face is " + open, open.equals(new TreeSet<>(Arrays.asList(FACE))));
        for (Method method : FirstOut.class.getDeclaredMethods()) {
            due.isTrue(method + " is public or has a name of its own",
                Modifier.isPublic(method.getModifiers()) || !openNames.contains(method.getName()));
        }
        due.isTrue("public and final",
            Modifier.isPublic(FirstOut.class.getModifiers()) && Modifier.isFinal(FirstOut.class.getModifiers()));
        due.is("constructors", FirstOut.class.getDeclaredConstructors().length, 1);
        due.is("public constructors", FirstOut.class.getConstructors().length, 1);
    }

    private static void constants() throws ReflectiveOperationException {
        String[] names = {"BAD", "STATE", "FULL", "NONE", "NO"};
        int[] values = {-1, -2, -3, -9, -1000000};
        for (int i = 0; i < names.length; i++) {
            due.is(names[i], FirstOut.class.getField(names[i]).getInt(null), values[i]);
        }
        due.is("public fields", FirstOut.class.getFields().length, names.length);
        for (Field field : FirstOut.class.getDeclaredFields()) {
            int how = field.getModifiers();
            due.isTrue(field + " is public or private", Modifier.isPublic(how) || Modifier.isPrivate(how));
            due.isTrue(field + " is final if static", Modifier.isFinal(how) || !Modifier.isStatic(how));
        }
    }

    private static void sizes() {
        Class<?>[] inside = FirstOut.class.getDeclaredClasses();
        due.isTrue("at most twelve classes", inside.length + 1 <= 12);
        for (Class<?> nested : inside) {
            due.isTrue(nested + " is static", Modifier.isStatic(nested.getModifiers()));
            sizes(nested);
        }
        sizes(FirstOut.class);
    }

    private static void sizes(Class<?> of) {
        long fields = Arrays.stream(of.getDeclaredFields()).filter(f -> !Modifier.isStatic(f.getModifiers())).count();
        due.isTrue(of + " has at most twenty fields", fields <= 20);
        for (Method method : of.getDeclaredMethods()) {
            due.isTrue(method + " takes at most seven", method.getParameterCount() <= 7);
        }
    }

    private static void barredWords() throws IOException {
        String source = Files.readString(SOURCE);
        String code = source.replaceAll("(?s)/\\*.*?\\*/", "").replaceAll("//[^\n]*", "");
        for (String barred : BARRED) {
            due.isTrue("no " + barred, !Pattern.compile(barred).matcher(code).find());
        }
    }

    /** A class's own end comes right behind its last method's, so it may be taken for one. */
    private static void methodLengths() throws IOException {
        Pattern head = Pattern.compile(" {4}(?: {4})?(?!if|for|while|switch)\\w[\\w\\[\\] ]*\\([^)]*\\) \\{");
        int length = 0;
        int heads = 0;
        for (String line : Files.readAllLines(SOURCE)) {
            length++;
            if (head.matcher(line).matches()) {
                length = 1;
                heads++;
            }
            boolean end = line.equals("    }") || line.equals("        }");
            due.isTrue("methods have at most sixty lines", !end || length <= 60);
        }
        due.isTrue("methods were found: " + heads, heads >= FACE.length + 1);
    }

    /** All calls of a run share one room, so an object takes little and its calls make nothing. */
    private static void room() {
        ThreadMXBean counter = (ThreadMXBean) ManagementFactory.getThreadMXBean();
        long thread = Thread.currentThread().getId();
        FirstOut[] made = new FirstOut[100];
        everyCall(new FirstOut());
        long before = counter.getThreadAllocatedBytes(thread);
        for (int i = 0; i < made.length; i++) {
            made[i] = new FirstOut();
        }
        long between = counter.getThreadAllocatedBytes(thread);
        for (FirstOut x : made) {
            everyCall(x);
        }
        long behind = counter.getThreadAllocatedBytes(thread);
        due.isTrue("an object takes " + (between - before) / 100, (between - before) / 100 < 4000);
        due.isTrue("every call once makes " + (behind - between) / 100, (behind - between) / 100 < 16);
    }

    private static void everyCall(FirstOut x) {
        String text = "t1 9 9 0;t3 8 0 1;t7 7 1 0;v1;w3 4 5;";
        for (int i = 0; i < text.length(); i++) {
            x.type(text.charAt(i));
        }
        long sum = x.house() + x.thing(0, 7) + x.now(3) + x.swears(3) + x.keepsIn(0, 1) + x.tells(2, 1) + x.day(5)
            + x.undo() + x.harm(0) + x.odds(0, 1) + x.swear(0) + x.sense(2) + x.both(1) + x.means(7) + x.span()
            + x.shut(7, 1) + x.tell() + x.saw(0, 1) + x.forget() + x.fit(2) + x.lost(9999, 7) + x.draw(0, 0)
            + x.rate(3, 0) + x.keep(0) + x.back(0) + x.count(0) + x.clear() + x.trace();
        due.isTrue("the calls have an answer", sum != Long.MIN_VALUE);
    }

    /** Any call in any state, far behind the 512th too, comes to an end without an exception. */
    private static void neverThrows() throws ReflectiveOperationException {
        Method[] methods = Arrays.stream(FirstOut.class.getMethods())
            .filter(m -> m.getDeclaringClass() == FirstOut.class).toArray(Method[]::new);
        Arrays.sort(methods, (a, b) -> a.getName().compareTo(b.getName()));
        int[] strange = {Integer.MIN_VALUE, Integer.MAX_VALUE, -1, 31, 32, 33, 64, 199, 200, 9999, 10000, 65536};
        Random random = new Random(7);
        FirstOut x = new FirstOut();
        for (int i = 0; i < 100000; i++) {
            if (i % 500 == 0) {
                x.clear();
                Due.type(x, "t1 9 9 0;t3 8 0 1;t7 7 1 0;".substring(0, 9 * random.nextInt(4)) + "v1;w3 4 5;");
                x.house();
            }
            Method method = methods[random.nextInt(methods.length)];
            Object[] inputs = new Object[method.getParameterCount()];
            for (int p = 0; p < inputs.length; p++) {
                inputs[p] = random.nextInt(5) == 0 ? strange[random.nextInt(strange.length)] : random.nextInt(9);
            }
            method.invoke(x, inputs);
        }
        due.is("letters are 200 at most", Math.min(x.count(5), 200), x.count(5));
    }
}
