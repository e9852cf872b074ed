import java.lang.reflect.Method;
import java.lang.reflect.Modifier;
import java.nio.file.Files;
import java.nio.file.Path;
import java.util.ArrayList;
import java.util.List;
import java.util.Set;
import java.util.TreeSet;
import java.util.function.Supplier;

/** Tests of edges: each one quotes the sentence of ../shared/DOC.md that it tests, and names its promise. */
final class Edge {
    static final int LEAST = Integer.MIN_VALUE;
    static final int MOST = Integer.MAX_VALUE;

    private static final int PROMISES = 44;
    private static final int FINDINGS = 7;
    private static final Set<Integer> named = new TreeSet<>();
    private static String[] document = {};
    private static String label = "";

    private Edge() {
    }

    /** Runs each test of a class, and asks that each names a sentence, and each promise from one to another has one. */
    static void run(Class<?> tests, int first, int last) throws Exception {
        document = sections();
        for (Method test : tests.getDeclaredMethods()) {
            boolean isTest = Modifier.isStatic(test.getModifiers()) && !Modifier.isPrivate(test.getModifiers())
                && !test.isSynthetic() && test.getParameterCount() == 0;
            if (isTest) {
                label = "";
                test.invoke(null);
                Check.due(test.getName() + " names its promise", label.isEmpty() ? 0 : 1, 1);
            }
        }
        for (int number = first; number <= last; number++) {
            Check.due("promise " + number + " has a test", named.contains(number) ? 1 : 0, 1);
        }
        Check.end();
    }

    /** The document ahead of promise 1, then each promise, with one blank for each gap. */
    private static String[] sections() throws Exception {
        String text = Files.readString(Path.of("../shared/DOC.md")).replaceAll("\\s+", " ");
        String[] parts = text.split("## (?=Promise \\d+: )");
        Check.due("promises of the document", parts.length - 1, PROMISES);
        return parts;
    }

    /** What is asked from here on belongs to a sentence of this promise. */
    static void promise(int number, String words) {
        names(number, document[number].split(" ")[2], number, words);
    }

    /** What is asked from here on belongs to a sentence of the Terms, on which this promise rests. */
    static void terms(int number, String words) {
        names(number, "by the Terms", 0, words);
    }

    private static void names(int number, String name, int section, String words) {
        named.add(number);
        label = "promise " + number + " (" + name + "), '" + words + "': ";
        Check.due(label + "stands in the document", document[section].contains(words) ? 1 : 0, 1);
    }

    static void due(String what, long got, long want) {
        Check.due(label + what, got, want);
    }

    static void same(String what, String got, String want) {
        Check.due(label + what + (got.equals(want) ? "" : ": " + got + " for " + want), got.equals(want) ? 1 : 0, 1);
    }

    static void answers(SecondHome x, long want, String act, long... numbers) {
        due(told(act, numbers), call(x, act, numbers), want);
    }

    /** A finding is answered, counted once as what it is, and nothing else is other than without the call. */
    static void refuses(Supplier<SecondHome> made, int finding, String act, long... numbers) {
        SecondHome x = made.get();
        SecondHome like = made.get();
        String call = told(act, numbers);
        due(call, call(x, act, numbers), finding);
        for (int which = 0; which < FINDINGS; which++) {
            int more = which == Check.BEYOND - finding ? 1 : 0;
            due(call + ", then status(" + which + ")", x.status(which), like.status(which) + more);
        }
        due(call + ", then status(-1)", x.status(-1), like.status(-1) + 1);
        same(call + " changes nothing else", whole(x), whole(like));
    }

    /** A call that answers without a finding, and after which all is as without it. */
    static void keeps(Supplier<SecondHome> made, long want, String act, long... numbers) {
        SecondHome x = made.get();
        SecondHome like = made.get();
        String call = told(act, numbers);
        due(call, call(x, act, numbers), want);
        due(call + ", then status(-1)", x.status(-1), like.status(-1));
        same(call + " changes nothing", whole(x), whole(like));
    }

    /** All that an object holds. It is used up by this: the tape is read, the image put back. */
    static String whole(SecondHome x) {
        StringBuilder b = new StringBuilder(Check.picture(x));
        for (int s = 0; s < 4; s++) {
            b.append("| ").append(row(x, s));
        }
        b.append("| text ").append(x.text()).append(": ").append(Check.picture(x));
        b.append("| undo ").append(x.undo()).append(": ").append(Check.picture(x));
        return b.append("| tear ").append(x.tear()).toString();
    }

    /** Each number of a sheet, and what such a one keeps of ones alone, which tells its bits. */
    static String row(SecondHome x, int s) {
        StringBuilder b = new StringBuilder();
        for (int i = 0; i < 41; i++) {
            long was = x.write(s, i, 0x7fffffffffffff00L);
            if (was == Check.MISSING || was == Check.BEYOND) {
                return b.append(was).toString();
            }
            b.append(was).append(' ').append(x.write(s, i, was)).append(' ');
        }
        return b.toString();
    }

    /** The numbers of a sheet from 0 on are these, and it has no other ones. */
    static void holds(SecondHome x, int s, long... numbers) {
        for (int i = 0; i < numbers.length; i++) {
            long was = x.write(s, i, 0);
            x.write(s, i, was);
            due("number " + i + " of sheet " + s, was, numbers[i]);
        }
        due("number " + numbers.length + " of sheet " + s, x.write(s, numbers.length, 0), Check.BEYOND);
    }

    /** Runners on a track, each told by kind, pace, breath, friend and start, and lined up. */
    static SecondHome lined(int length, int least, int law, int[]... runners) {
        SecondHome x = new SecondHome();
        x.let(0, length);
        x.let(1, least);
        x.let(2, law);
        for (int[] r : runners) {
            x.runner(r[0], r[1], r[2]);
        }
        for (int i = 0; i < runners.length; i++) {
            x.set(i, 3, runners[i][3]);
            x.set(i, 4, runners[i][4]);
        }
        x.line();
        return x;
    }

    static int[] one(int kind, int pace, int breath, int friend, int start) {
        return new int[] {kind, pace, breath, friend, start};
    }

    /** Runners of kind RUNNER at pace 4, so many of them. */
    static SecondHome many(int count) {
        SecondHome x = new SecondHome();
        for (int r = 0; r < count; r++) {
            x.runner(0, 4, 0);
        }
        return x;
    }

    /** Three of whom one is home, points, another image, sheets of each kind and one missing, a text on the tape. */
    static SecondHome some() {
        SecondHome x = lined(40, 1, 1, one(1, 12, 900, -1, 0), one(3, 5, 50, 0, 0), one(0, 3, 7, -1, 30));
        x.seconds(600);
        x.score();
        x.image();
        x.let(1, 2);
        x.let(2, 3);
        x.set(0, 1, 6);
        x.line();
        x.seconds(4);
        int[] bits = {8, 16, 0, 64};
        for (int s = 0; s < bits.length; s++) {
            x.sheet(s, bits[s], 3);
            for (int i = 0; i < 3 && bits[s] > 0; i++) {
                x.write(s, i, 20 * s + i + 5);
            }
        }
        Check.feed(x, "law 0;idler pace 7 start 9");
        return x;
    }

    static long call(SecondHome x, String act, long... numbers) {
        try {
            Method method = methodNamed(act);
            List<Object> given = new ArrayList<>();
            for (int i = 0; i < method.getParameterCount(); i++) {
                boolean isLong = method.getParameterTypes()[i] == long.class;
                given.add(isLong ? (Object) numbers[i] : (Object) Math.toIntExact(numbers[i]));
            }
            return ((Number) method.invoke(x, given.toArray())).longValue();
        } catch (ReflectiveOperationException e) {
            Check.fault(label + told(act, numbers) + " threw " + e.getCause());
            return 0;
        }
    }

    private static Method methodNamed(String act) throws NoSuchMethodException {
        for (Method m : SecondHome.class.getDeclaredMethods()) {
            if (m.getName().equals(act) && Modifier.isPublic(m.getModifiers())) {
                return m;
            }
        }
        throw new NoSuchMethodException(act);
    }

    private static String told(String act, long... numbers) {
        StringBuilder b = new StringBuilder(act).append('(');
        for (int i = 0; i < numbers.length; i++) {
            b.append(i == 0 ? "" : ", ").append(numbers[i]);
        }
        return b.append(')').toString();
    }
}
