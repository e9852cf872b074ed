import java.util.Arrays;
import java.util.Random;

/**
 * Promises 16 to 30, 33, 38 and 39: what a call tells of seconds to come, or of a race, is what acts bring about on a
 * like object. ON is "with all as it is", a RACE begins with "all to their START", with "BREATH as it is told now".
 * Like objects are made anew for each question, as one is used for 512 calls at most.
 */
public final class ByActsTest {
    private static final int WORLDS = 150;
    private static final int THE_END = 2000;

    private final int seed;
    private final SecondHome x;
    private final int count;
    private final int length;
    /** Draws for what is asked, apart from those that made the object. */
    private final Random draw;

    private ByActsTest(int seed) {
        this.seed = seed;
        x = like();
        count = x.count(0);
        length = x.now(1);
        draw = new Random(seed + 1000);
    }

    public static void main(String[] args) {
        for (int seed = 0; seed < WORLDS; seed++) {
            new ByActsTest(seed).asks();
        }
        Check.end();
    }

    /** The same object for the same seed: runners in the midst of a race, some told anew since they started. */
    private SecondHome like() {
        Random of = new Random(seed);
        SecondHome y = new SecondHome();
        y.let(0, of.nextInt(20) == 0 ? 9999 : 10 + of.nextInt(90));
        y.let(1, of.nextInt(6));
        y.let(2, of.nextInt(4));
        int runners = 1 + of.nextInt(seed % 2 == 0 ? 4 : 9);
        for (int r = 0; r < runners; r++) {
            y.runner(of.nextInt(6), 1 + of.nextInt(12), of.nextInt(of.nextInt(3) == 0 ? 1000 : 40));
        }
        for (int r = 0; r < runners; r++) {
            y.set(r, 3, of.nextInt(runners + 1) - 1);
            y.set(r, 4, of.nextInt(of.nextBoolean() ? 5 : 10));
        }
        y.line();
        y.seconds(1 + of.nextInt(12));
        for (int r = 0; r < runners; r++) {
            changed(y, r, of);
        }
        y.let(1, of.nextInt(6));
        return y;
    }

    private static void changed(SecondHome y, int r, Random of) {
        switch (of.nextInt(6)) {
            case 0: y.turn(r, of.nextInt(6)); break;
            case 1: y.set(r, 1, 1 + of.nextInt(12)); break;
            case 2: y.set(r, 2, of.nextInt(30)); break;
            case 3: y.set(r, 3, of.nextInt(y.count(0) + 1) - 1); break;
            case 4: y.set(r, 4, of.nextInt(10)); break;
            default: break;
        }
    }

    private void due(String call, long got, long want) {
        Check.due("object " + seed + ": " + call, got, want);
    }

    private void asks() {
        String before = Edge.whole(like());
        leaders();
        unwilling();
        due("race()", x.race(), owner(like()));
        deal();
        fair();
        for (int law = 0; law < 4; law++) {
            prizeBy(law);
        }
        for (int r = 0; r < count; r++) {
            on(r);
            home(r);
            passes(r, draw.nextInt(count));
            favours(r);
            howToRun(r);
            odds(r);
        }
        films();
        text();
        Check.due("object " + seed + ": nothing changed", before.equals(Edge.whole(x)) ? 1 : 0, 1);
    }

    // ---- what acts bring about

    private static void go(SecondHome y, int seconds) {
        for (int left = seconds; left > 0; left -= 600) {
            y.seconds(Math.min(left, 600));
        }
    }

    /** A like object so many seconds on. */
    private SecondHome after(int seconds) {
        SecondHome y = like();
        go(y, seconds);
        return y;
    }

    /** A like object so many seconds into a race. */
    private SecondHome racing(int seconds) {
        SecondHome y = like();
        y.line();
        go(y, seconds);
        return y;
    }

    private static boolean allHome(SecondHome y) {
        return y.now(4) == y.count(0);
    }

    /** Who has the prize of a race that is run; a finding, as race() tells it. */
    private static int owner(SecondHome y) {
        y.line();
        go(y, THE_END);
        return allHome(y) ? y.prize() : Check.NONE;
    }

    /** The one who is first alone of those not home, by what of() tells; -1: nobody is. */
    private static int first(SecondHome y) {
        int first = -1;
        int with = 0;
        for (int r = 0; r < y.count(0); r++) {
            if (y.of(r, 7) < 0 && (first < 0 || y.of(r, 5) > y.of(first, 5))) {
                first = r;
            }
        }
        for (int r = 0; r < y.count(0); r++) {
            with += first >= 0 && y.of(r, 7) < 0 && y.of(r, 5) == y.of(first, 5) ? 1 : 0;
        }
        return with == 1 ? first : -1;
    }

    // ---- on

    private void on(int r) {
        for (int n : new int[] {0, 1, 1 + draw.nextInt(20), THE_END}) {
            due("on(" + r + ", " + n + ")", x.on(r, n), after(n).of(r, 5));
        }
    }

    private void home(int r) {
        int at = after(THE_END).of(r, 7);
        due("home(" + r + ")", x.home(r), at < 0 ? Check.NONE : at);
    }

    private void prizeBy(int law) {
        SecondHome y = after(THE_END);
        y.let(2, law);
        due("prizeBy(" + law + ")", x.prizeBy(law), allHome(y) ? y.prize() : Check.NONE);
    }

    private void leaders() {
        int latest = -1;
        int times = 0;
        boolean ended = false;
        for (int n = 0; n <= THE_END && !ended; n++) {
            SecondHome y = after(n);
            int first = first(y);
            times += first >= 0 && first != latest ? 1 : 0;
            latest = first >= 0 ? first : latest;
            ended = allHome(y);
        }
        due("leaders()", x.leaders(), times);
    }

    private void passes(int one, int other) {
        int at = one == other ? Check.BEYOND : Check.NONE;
        boolean ended = false;
        for (int n = 0; n <= THE_END && at == Check.NONE && !ended; n++) {
            SecondHome y = after(n);
            at = y.of(one, 5) > y.of(other, 5) ? n : at;
            ended = allHome(y);
        }
        due("passes(" + one + ", " + other + ")", x.passes(one, other), at);
    }

    // ---- how to run it

    private void favours(int r) {
        int laws = 0;
        for (int law = 0; law < 4; law++) {
            SecondHome y = like();
            y.let(2, law);
            laws |= owner(y) == r ? 1 << law : 0;
            laws = allHome(y) ? laws : Check.NONE;
        }
        due("favours(" + r + ")", x.favours(r), laws);
    }

    private void howToRun(int r) {
        due("pace(" + r + ")", x.pace(r), leastThatHas(r, 1, 12, 1, 1));
        due("start(" + r + ")", x.start(r), leastThatHas(r, 0, Math.min(200, length - 1), 5, 4));
        due("friend(" + r + ")", x.friend(r), leastThatHas(r, -1, count - 1, 1, 3));
        int kind = Check.NONE;
        for (int v = 5; v >= 0; v--) {
            SecondHome y = like();
            y.turn(r, v);
            kind = owner(y) == r ? v : kind;
        }
        due("kind(" + r + ")", x.kind(r), kind);
    }

    /** The least number with which, set as this or that, a runner has the prize. */
    private int leastThatHas(int r, int from, int most, int step, int what) {
        for (int v = from; v <= most; v += step) {
            SecondHome y = like();
            if (y.set(r, what, v) != Check.BEYOND && owner(y) == r) {
                return v;
            }
        }
        return Check.NONE;
    }

    private void deal() {
        int now = owner(like());
        int first = Check.NONE;
        for (int one = 0; one < count && now >= 0; one++) {
            for (int other = one + 1; other < count; other++) {
                SecondHome y = like();
                y.set(one, 1, y.set(other, 1, y.of(one, 1)));
                int then = owner(y);
                first = first == Check.NONE && then >= 0 && then != now ? 10 * one + other : first;
            }
        }
        due("deal()", x.deal(), first);
    }

    private void fair() {
        int fastest = 0;
        for (int r = 1; r < count; r++) {
            fastest = x.of(r, 1) > x.of(fastest, 1) ? r : fastest;
        }
        int least = Check.NONE;
        for (int v = 5; v >= 0; v--) {
            SecondHome y = like();
            y.let(1, v);
            least = owner(y) == fastest ? v : least;
        }
        due("fair()", x.fair(), least);
    }

    private void odds(int r) {
        int n = 1 + draw.nextInt(20);
        int z = draw.nextInt();
        int drawn = z;
        int had = 0;
        for (int i = 0; i < n; i++) {
            SecondHome y = like();
            for (int other = 0; other < count; other++) {
                drawn = drawn * 1103515245 + 12345;
                y.set(other, 1, (drawn >>> 8) % 12 + 1);
            }
            had += owner(y) == r ? 1 : 0;
        }
        due("odds(" + r + ", " + n + ", " + z + ")", x.odds(r, n, z), had);
    }

    private void unwilling() {
        int set = 0;
        boolean ended = false;
        for (int n = 0; n < THE_END && !ended; n++) {
            SecondHome y = racing(n);
            int first = first(y);
            if (first >= 0) {
                int ran = racing(n + 1).of(first, 5) - y.of(first, 5);
                int pace = y.of(first, 1);
                set |= ran < pace && y.of(first, 2) >= pace - 4 ? 1 << first : 0;
            }
            ended = allHome(y);
        }
        due("unwilling()", x.unwilling(), set);
    }

    // ---- sheets, the text

    private void films() {
        int size = 1 + draw.nextInt(20);
        long[][] yards = new long[count][size];
        for (int n = 0; n < size; n++) {
            for (int r = 0; r < count; r++) {
                yards[r][n] = after(n).of(r, 5);
            }
        }
        for (int r = 0; r < count; r++) {
            SecondHome z = like();
            z.sheet(0, 64, size);
            due("film(0, " + r + ")", z.film(0, r), size);
            int reader = r;
            for (int other = r; other >= 0; other--) {
                reader = Arrays.equals(yards[other], yards[r]) ? other : reader;
            }
            due("read(0)", z.read(0), reader);
            for (int n = 0; n < size; n++) {
                due("number " + n + " of film(0, " + r + ")", z.write(0, n, 0), yards[r][n]);
            }
        }
    }

    /** Items come to what there is, which stays else. */
    private void text() {
        SecondHome told = like();
        SecondHome y = like();
        due("text()", Check.text(told, "law 2;least 3"), 2);
        y.let(2, 2);
        y.let(1, 3);
        Check.due("object " + seed + ": all else stays", Edge.whole(told).equals(Edge.whole(y)) ? 1 : 0, 1);
        told = like();
        y = like();
        int added = y.runner(5, 7, 100);
        due("text()", Check.text(told, "idler pace 7 friend 0"), added < 0 ? -1 : 1);
        y.set(added, 3, 0);
        Check.due("object " + seed + ": one more", Edge.whole(told).equals(Edge.whole(y)) ? 1 : 0, 1);
    }
}
