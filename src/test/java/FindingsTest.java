import java.lang.reflect.Method;
import java.util.ArrayList;
import java.util.List;

/** Each finding of each act: it is answered, counted once by status(), and nothing else changes. */
public final class FindingsTest {
    private static final int LEAST = Integer.MIN_VALUE;
    private static final int MOST = Integer.MAX_VALUE;

    public static void main(String[] args) throws Exception {
        onARace();
        onAFullTrack();
        onATrackTooLong();
        onAnEmptyTrack();
        Check.end();
    }

    /** Two runners of whom one is home, sheets 0 and 1 of 8 and 16 bits, sheet 2 missing, 118 bytes on the tape. */
    private static SecondHome race() {
        SecondHome x = new SecondHome();
        x.let(0, 40);
        x.runner(1, 12, 900);
        x.runner(0, 1, 50);
        x.set(1, 4, 39);
        x.line();
        x.seconds(2);
        x.sheet(0, 8, 3);
        x.sheet(1, 16, 3);
        for (int i = 0; i < 59; i++) {
            x.feed(7, 2);
        }
        return x;
    }

    private static void onARace() throws Exception {
        SecondHome x = race();
        for (int r : new int[] {LEAST, -1, 2, 9, MOST}) {
            for (String act : List.of("wish", "home", "pace", "kind", "start", "favours", "friend", "place")) {
                finds(x, Check.BEYOND, act, r);
            }
            for (String act : List.of("of", "turn", "as", "on", "passes")) {
                finds(x, Check.BEYOND, act, r, 0);
            }
            finds(x, Check.BEYOND, "passes", 0, r);
            finds(x, Check.BEYOND, "set", r, 1, 1);
            finds(x, Check.BEYOND, "odds", r, 1, 1);
            finds(x, Check.BEYOND, "film", 0, r);
        }
        for (int wrong : new int[] {LEAST, -2, 10000, MOST}) {
            for (String act : List.of("seconds", "now", "prizeBy", "count", "status", "lays", "read")) {
                finds(x, Check.BEYOND, act, wrong);
            }
            for (String act : List.of("let", "of", "turn", "as", "on", "feed")) {
                finds(x, Check.BEYOND, act, 0, wrong);
            }
            for (int what = 0; what < 6; what++) {
                finds(x, Check.BEYOND, "set", 0, what, wrong);
            }
            finds(x, Check.BEYOND, "let", wrong, 1);
            finds(x, Check.BEYOND, "odds", 0, wrong, 0);
            finds(x, Check.BEYOND, "runner", wrong, 1, 1);
            finds(x, Check.BEYOND, "runner", 0, wrong, 1);
            finds(x, Check.BEYOND, "runner", 0, 1, wrong);
            finds(x, Check.BEYOND, "film", wrong, 0);
            finds(x, Check.BEYOND, "sheet", wrong, 8, 0);
            finds(x, Check.BEYOND, "sheet", 0, wrong, 0);
            finds(x, wrong < 0 ? Check.SIZE : Check.BEYOND, "sheet", 0, 8, wrong);
            finds(x, Check.BEYOND, "write", wrong, 0, 1);
            finds(x, Check.BEYOND, "write", 0, wrong, 1);
            finds(x, Check.BEYOND, "copy", wrong, 0, 0, 0, 1);
            finds(x, Check.BEYOND, "copy", 0, wrong, 0, 0, 1);
            finds(x, Check.BEYOND, "copy", 0, 0, wrong, 0, 1);
            finds(x, Check.BEYOND, "copy", 0, 0, 0, wrong, 1);
            finds(x, Check.BEYOND, "copy", 0, 0, 0, 0, wrong);
        }
        finds(x, Check.STATE, "let", 0, 50);
        finds(x, Check.STATE, "wish", 1);
        finds(x, Check.STATE, "score");
        finds(x, Check.KIND, "as", 0, 4);
        finds(x, Check.FULL, "feed", 0, 3);
        finds(x, Check.MISSING, "write", 2, 0, 1);
        finds(x, Check.MISSING, "copy", 2, 0, 0, 0, 1);
        finds(x, Check.MISSING, "copy", 0, 0, 2, 0, 1);
        finds(x, Check.KIND, "copy", 0, 0, 1, 0, 1);
        finds(x, Check.MISSING, "lays", 2);
        finds(x, Check.MISSING, "film", 2, 0);
        finds(x, Check.MISSING, "read", 2);
        finds(x, Check.NONE, "read", 0);
        finds(x, Check.NONE, "undo");
    }

    private static void onAFullTrack() throws Exception {
        SecondHome x = new SecondHome();
        for (int r = 0; r < 9; r++) {
            x.runner(0, 4, 0);
        }
        finds(x, Check.FULL, "runner", 0, 4, 0);
        finds(x, Check.NONE, "passes", 0, 1);
        finds(x, Check.NONE, "deal");
        finds(x, Check.NONE, "fair");
        finds(x, Check.NONE, "kind", 5);
        x.let(2, 0);
        x.set(0, 4, 199);
        finds(x, Check.NONE, "pace", 1);
        finds(x, Check.NONE, "friend", 1);
        x.set(0, 1, 12);
        x.set(0, 2, 99);
        x.set(2, 4, 199);
        finds(x, Check.NONE, "start", 1);
    }

    private static void onATrackTooLong() throws Exception {
        SecondHome x = new SecondHome();
        x.let(0, 9999);
        x.runner(0, 4, 0);
        x.runner(0, 4, 0);
        finds(x, Check.NONE, "home", 0);
        finds(x, Check.NONE, "prizeBy", 0);
        finds(x, Check.NONE, "race");
        finds(x, Check.NONE, "favours", 0);
        finds(x, Check.NONE, "deal");
    }

    private static void onAnEmptyTrack() throws Exception {
        SecondHome x = new SecondHome();
        for (String act : List.of("prize", "leads", "race", "deal", "fair", "undo")) {
            finds(x, Check.NONE, act);
        }
        for (int law = 0; law < 4; law++) {
            finds(x, Check.NONE, "prizeBy", law);
        }
        finds(x, Check.STATE, "score");
        x.sheet(0, 8, 0);
        finds(x, Check.NONE, "read", 0);
    }

    private static void finds(SecondHome x, int finding, String act, int... numbers) throws Exception {
        String before = picture(x);
        int which = -1000000001 - finding;
        int counted = x.status(which);
        int all = x.status(-1);
        StringBuilder call = new StringBuilder(act);
        List<Object> given = new ArrayList<>();
        Method method = methodNamed(act);
        for (int i = 0; i < method.getParameterCount(); i++) {
            call.append(' ').append(numbers[i]);
            given.add(method.getParameterTypes()[i] == long.class ? (Object) (long) numbers[i] : (Object) numbers[i]);
        }
        long got = ((Number) method.invoke(x, given.toArray())).longValue();
        Check.due(call.toString(), got, finding);
        Check.due(call + " is counted", x.status(which), counted + 1);
        Check.due(call + " is counted once", x.status(-1), all + 1);
        Check.due(call + " changes nothing else", picture(x).equals(before) ? 1 : 0, 1);
    }

    /** The rows of the sheets, too: they are told by what they were, and written back. */
    private static String picture(SecondHome x) {
        StringBuilder b = new StringBuilder(Check.picture(x));
        for (int s = 0; s < 2 && x.count(1) > 0; s++) {
            for (int i = 0; i < 3; i++) {
                long was = x.write(s, i, 0);
                x.write(s, i, was);
                b.append(was).append(' ');
            }
        }
        return b.toString();
    }

    private static Method methodNamed(String act) {
        for (Method m : SecondHome.class.getMethods()) {
            if (m.getName().equals(act)) {
                return m;
            }
        }
        throw new IllegalArgumentException(act);
    }
}
