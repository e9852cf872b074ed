import java.util.ArrayList;
import java.util.Arrays;
import java.util.Comparator;
import java.util.List;
import java.util.TreeSet;
import java.util.regex.Matcher;
import java.util.regex.Pattern;

/**
 * The document told once more, with the Java library and without thrift: worlds are copied whole, places are sorted,
 * the text is split by a regular expression. ModelTest compares its answers with those of SecondHome.
 */
final class Model {
    /** A finding on its way out. */
    static final class Finding extends RuntimeException {
        private static final long serialVersionUID = 1L;
        final int value;

        Finding(int value) {
            this.value = value;
        }
    }

    static final class Runner {
        int kind;
        int pace;
        int breath;
        int friend = -1;
        int start;
        int yards;
        int points;
        Integer home;

        Runner copied() {
            Runner r = new Runner();
            r.kind = kind;
            r.pace = pace;
            r.breath = breath;
            r.friend = friend;
            r.start = start;
            r.yards = yards;
            r.points = points;
            r.home = home;
            return r;
        }
    }

    static final class World {
        int length = 200;
        int least = 1;
        int law = 1;
        int second;
        final List<Runner> runners = new ArrayList<>();

        World copied() {
            World w = new World();
            w.length = length;
            w.least = least;
            w.law = law;
            w.second = second;
            for (Runner r : runners) {
                w.runners.add(r.copied());
            }
            return w;
        }

        World lined() {
            World w = copied();
            w.second = 0;
            for (Runner r : w.runners) {
                r.yards = r.start;
                r.home = null;
            }
            return w;
        }

        boolean somebodyOut() {
            return runners.stream().anyMatch(r -> r.home == null);
        }

        boolean isFirst(Runner one) {
            return one.home == null
                && runners.stream().filter(r -> r != one && r.home == null).allMatch(r -> one.yards > r.yards);
        }

        int first() {
            for (int i = 0; i < runners.size(); i++) {
                if (isFirst(runners.get(i))) {
                    return i;
                }
            }
            return -1;
        }

        int wish(Runner r, int asKind) {
            Runner friend = r.friend < 0 ? null : runners.get(r.friend);
            switch (asKind) {
                case 0:
                    return r.pace;
                case 1:
                    return isFirst(r) && r.yards >= 0.75 * length ? least : wish(r, 0);
                case 2: {
                    int w = wish(r, 0);
                    if (friend != null && friend.home == null && r.yards + w > friend.yards) {
                        w = friend.yards - r.yards;
                    }
                    return w < 1 ? 1 : w;
                }
                case 3:
                    return friend != null && friend.home != null ? least : wish(r, 2);
                case 4: {
                    boolean firstOfAll = runners.stream().allMatch(o -> o.home == null) && isFirst(r);
                    return wish(r, 1) * (r.yards + 40 >= length && !firstOfAll ? 2 : 1);
                }
                default:
                    return wish(r, 1) > least + 2 ? least + 2 : wish(r, 1);
            }
        }

        /** The world one second on; the same one if all are home. */
        World next() {
            if (!somebodyOut()) {
                return this;
            }
            World w = copied();
            w.second++;
            for (int i = 0; i < runners.size(); i++) {
                Runner was = runners.get(i);
                Runner is = w.runners.get(i);
                if (was.home != null) {
                    continue;
                }
                int run = Math.max(least, wish(was, was.kind));
                int above = run > 4 ? run - 4 : 0;
                if (was.breath < above) {
                    run = least > 4 ? least : 4;
                } else {
                    is.breath = was.breath - above;
                    if (run < 4 && is.breath < 999) {
                        is.breath++;
                    }
                }
                is.yards = was.yards + run;
                if (is.yards >= length) {
                    is.home = w.second;
                }
            }
            return w;
        }

        World on(int n) {
            World w = this;
            for (int i = 0; i < n; i++) {
                w = w.next();
            }
            return w;
        }

        World end() {
            World w = this;
            for (int i = 0; i < 2000 && w.somebodyOut(); i++) {
                w = w.next();
            }
            return w;
        }

        List<Integer> places() {
            List<Integer> order = new ArrayList<>();
            for (int i = 0; i < runners.size(); i++) {
                order.add(i);
            }
            order.sort(Comparator
                .comparingInt((Integer i) -> runners.get(i).home == null ? Integer.MAX_VALUE : runners.get(i).home)
                .thenComparingInt(i -> -runners.get(i).yards)
                .thenComparingInt(i -> i));
            return order;
        }

        int prize(int byLaw) {
            int n = runners.size();
            int[] place = {0, 1, n - 2, (n - 1) / 2};
            int p = place[byLaw];
            if (p < 0 || p >= n) {
                throw new Finding(Check.NONE);
            }
            return places().get(p);
        }

        int race() {
            World w = lined().end();
            if (w.somebodyOut()) {
                throw new Finding(Check.NONE);
            }
            return w.prize(law);
        }

        boolean raceIsOf(int runner) {
            try {
                return race() == runner;
            } catch (Finding f) {
                return false;
            }
        }
    }

    World world = new World();
    World kept;
    List<Integer> tape = new ArrayList<>();
    final long[][] sheets = new long[4][];
    final int[] bits = new int[4];
    final int[] findings = new int[7];

    private static void want(boolean holds, int finding) {
        if (!holds) {
            throw new Finding(finding);
        }
    }

    private Runner get(int runner) {
        want(runner >= 0 && runner < world.runners.size(), Check.BEYOND);
        return world.runners.get(runner);
    }

    private static boolean within(int v, int least, int most) {
        return least <= v && v <= most;
    }

    /** The answer to a call told by its name and numbers. */
    long answer(String call, long... a) {
        int[] i = new int[a.length];
        for (int k = 0; k < a.length; k++) {
            i[k] = (int) a[k];
        }
        try {
            switch (call) {
                case "let": return let(i[0], i[1]);
                case "runner": return runner(i[0], i[1], i[2]);
                case "of": return of(i[0], i[1]);
                case "set": return set(i[0], i[1], i[2]);
                case "turn": return turn(i[0], i[1]);
                case "as": return as(i[0], i[1]);
                case "wish": return wish(i[0]);
                case "line": return line();
                case "seconds": return seconds(i[0]);
                case "now": return now(i[0]);
                case "place": return place(i[0]);
                case "prize": return world.prize(world.law);
                case "score": return score();
                case "leads": return leads();
                case "on": return on(i[0], i[1]);
                case "home": return home(i[0]);
                case "prizeBy": return prizeBy(i[0]);
                case "leaders": return leaders();
                case "passes": return passes(i[0], i[1]);
                case "race": return world.race();
                case "unwilling": return unwilling();
                case "feed": return feed(i[0], i[1]);
                case "wipe": return wipe();
                case "text": return text();
                case "image": kept = world.copied(); return 1;
                case "undo": return undo();
                case "tear": return tear();
                case "count": return count(i[0]);
                case "status": return status(i[0]);
                default: return more(call, i, a);
            }
        } catch (Finding f) {
            findings[-1000000001 - f.value]++;
            return f.value;
        }
    }

    private long more(String call, int[] i, long[] a) {
        switch (call) {
            case "pace": return pace(i[0]);
            case "kind": return kind(i[0]);
            case "start": return start(i[0]);
            case "favours": return favours(i[0]);
            case "friend": return friend(i[0]);
            case "deal": return deal();
            case "fair": return fair();
            case "odds": return odds(i[0], i[1], i[2]);
            case "sheet": return sheet(i[0], i[1], i[2]);
            case "write": return write(i[0], i[1], a[2]);
            case "copy": return copy(i[0], i[1], i[2], i[3], i[4]);
            case "lays": return lays(i[0]);
            case "film": return film(i[0], i[1]);
            case "read": return read(i[0]);
            default: throw new IllegalArgumentException(call);
        }
    }

    private int let(int what, int v) {
        want(within(what, 0, 2), Check.BEYOND);
        int was;
        if (what == 0) {
            want(within(v, 10, 9999), Check.BEYOND);
            want(world.runners.isEmpty(), Check.STATE);
            was = world.length;
            world.length = v;
        } else if (what == 1) {
            want(within(v, 0, 5), Check.BEYOND);
            was = world.least;
            world.least = v;
        } else {
            want(within(v, 0, 3), Check.BEYOND);
            was = world.law;
            world.law = v;
        }
        return was;
    }

    private int runner(int kind, int pace, int breath) {
        want(within(kind, 0, 5) && within(pace, 1, 12) && within(breath, 0, 999), Check.BEYOND);
        want(world.runners.size() < 9, Check.FULL);
        Runner r = new Runner();
        r.kind = kind;
        r.pace = pace;
        r.breath = breath;
        world.runners.add(r);
        return world.runners.size() - 1;
    }

    private int of(int runner, int what) {
        Runner r = get(runner);
        want(within(what, 0, 8), Check.BEYOND);
        int[] told = {r.kind, r.pace, r.breath, r.friend, r.start, r.yards, r.points, r.home == null ? -1 : r.home,
            world.places().indexOf(runner)};
        return told[what];
    }

    private int set(int runner, int what, int v) {
        Runner r = get(runner);
        int was;
        switch (what) {
            case 1:
                want(within(v, 1, 12), Check.BEYOND);
                was = r.pace;
                r.pace = v;
                return was;
            case 2:
                want(within(v, 0, 999), Check.BEYOND);
                was = r.breath;
                r.breath = v;
                return was;
            case 3:
                want(within(v, -1, world.runners.size() - 1) && v != runner, Check.BEYOND);
                was = r.friend;
                r.friend = v;
                return was;
            case 4:
                want(within(v, 0, world.length - 1), Check.BEYOND);
                was = r.start;
                r.start = v;
                return was;
            default:
                throw new Finding(Check.BEYOND);
        }
    }

    private int turn(int runner, int kind) {
        Runner r = get(runner);
        want(within(kind, 0, 5), Check.BEYOND);
        int was = r.kind;
        r.kind = kind;
        return was;
    }

    private int as(int runner, int kind) {
        Runner r = get(runner);
        want(within(kind, 0, 5), Check.BEYOND);
        List<List<Integer>> under = List.of(List.of(0, 1, 2, 3, 4, 5), List.of(1, 4, 5), List.of(2, 3), List.of(3),
            List.of(4), List.of(5));
        want(under.get(kind).contains(r.kind), Check.KIND);
        return r.pace;
    }

    private int wish(int runner) {
        Runner r = get(runner);
        want(r.home == null, Check.STATE);
        return world.wish(r, r.kind);
    }

    private int homeOnes() {
        return (int) world.runners.stream().filter(r -> r.home != null).count();
    }

    private int line() {
        int were = homeOnes();
        world = world.lined();
        return were;
    }

    private int seconds(int n) {
        want(within(n, 1, 600), Check.BEYOND);
        int were = homeOnes();
        world = world.on(n).copied();
        return homeOnes() - were;
    }

    private int now(int what) {
        want(within(what, 0, 4), Check.BEYOND);
        return new int[] {world.second, world.length, world.least, world.law, homeOnes()}[what];
    }

    private int place(int i) {
        want(within(i, 0, world.runners.size() - 1), Check.BEYOND);
        return world.places().get(i);
    }

    private int score() {
        want(!world.runners.isEmpty() && !world.somebodyOut(), Check.STATE);
        List<Integer> places = world.places();
        int given = 0;
        for (int p = 0; p < places.size(); p++) {
            int got = places.size() - 1 - p;
            try {
                got += world.prize(world.law) == places.get(p) ? 10 : 0;
            } catch (Finding nobodys) {
                got += 0;
            }
            world.runners.get(places.get(p)).points += got;
            given += got;
        }
        return given;
    }

    private int leads() {
        want(!world.runners.isEmpty(), Check.NONE);
        int most = world.runners.stream().mapToInt(r -> r.points).max().getAsInt();
        int i = 0;
        while (world.runners.get(i).points != most) {
            i++;
        }
        return i;
    }

    private int on(int runner, int n) {
        get(runner);
        want(within(n, 0, 2000), Check.BEYOND);
        return world.on(n).runners.get(runner).yards;
    }

    private int home(int runner) {
        get(runner);
        Integer at = world.end().runners.get(runner).home;
        want(at != null, Check.NONE);
        return at;
    }

    private int prizeBy(int law) {
        want(within(law, 0, 3), Check.BEYOND);
        World w = world.end();
        want(!w.somebodyOut(), Check.NONE);
        return w.prize(law);
    }

    private int leaders() {
        List<Integer> firsts = new ArrayList<>();
        World w = world;
        for (int i = 0; i <= 2000; i++) {
            int f = w.first();
            if (f >= 0 && (firsts.isEmpty() || firsts.get(firsts.size() - 1) != f)) {
                firsts.add(f);
            }
            w = w.next();
        }
        return firsts.size();
    }

    private int passes(int one, int other) {
        get(one);
        get(other);
        want(one != other, Check.BEYOND);
        World w = world;
        for (int i = 0; i <= 2000; i++) {
            if (w.runners.get(one).yards > w.runners.get(other).yards) {
                return i;
            }
            w = w.next();
        }
        throw new Finding(Check.NONE);
    }

    private int pace(int runner) {
        get(runner);
        for (int v = 1; v <= 12; v++) {
            World w = world.copied();
            w.runners.get(runner).pace = v;
            if (w.raceIsOf(runner)) {
                return v;
            }
        }
        throw new Finding(Check.NONE);
    }

    private int kind(int runner) {
        get(runner);
        for (int v = 0; v <= 5; v++) {
            World w = world.copied();
            w.runners.get(runner).kind = v;
            if (w.raceIsOf(runner)) {
                return v;
            }
        }
        throw new Finding(Check.NONE);
    }

    private int start(int runner) {
        get(runner);
        for (int v = 0; v < Math.min(world.length, 201); v += 5) {
            World w = world.copied();
            w.runners.get(runner).start = v;
            if (w.raceIsOf(runner)) {
                return v;
            }
        }
        throw new Finding(Check.NONE);
    }

    private int favours(int runner) {
        get(runner);
        World w = world.lined().end();
        want(!w.somebodyOut(), Check.NONE);
        int set = 0;
        for (int law = 0; law < 4; law++) {
            World by = world.copied();
            by.law = law;
            set += by.raceIsOf(runner) ? 1 << law : 0;
        }
        return set;
    }

    private int friend(int runner) {
        get(runner);
        for (int v = -1; v < world.runners.size(); v++) {
            World w = world.copied();
            w.runners.get(runner).friend = v;
            if (v != runner && w.raceIsOf(runner)) {
                return v;
            }
        }
        throw new Finding(Check.NONE);
    }

    private int deal() {
        int has = world.race();
        TreeSet<Integer> pairs = new TreeSet<>();
        for (int b = 0; b < world.runners.size(); b++) {
            for (int a = 0; a < b; a++) {
                World w = world.copied();
                w.runners.get(a).pace = world.runners.get(b).pace;
                w.runners.get(b).pace = world.runners.get(a).pace;
                boolean somebodyHas = false;
                for (int r = 0; r < world.runners.size(); r++) {
                    somebodyHas |= r != has && w.raceIsOf(r);
                }
                if (somebodyHas) {
                    pairs.add(10 * a + b);
                }
            }
        }
        want(!pairs.isEmpty(), Check.NONE);
        return pairs.first();
    }

    private int fair() {
        want(!world.runners.isEmpty(), Check.NONE);
        int most = world.runners.stream().mapToInt(r -> r.pace).max().getAsInt();
        int fastest = 0;
        while (world.runners.get(fastest).pace != most) {
            fastest++;
        }
        for (int v = 0; v <= 5; v++) {
            World w = world.copied();
            w.least = v;
            if (w.raceIsOf(fastest)) {
                return v;
            }
        }
        throw new Finding(Check.NONE);
    }

    private int odds(int runner, int n, int z) {
        get(runner);
        want(within(n, 1, 20), Check.BEYOND);
        long drawn = z;
        int had = 0;
        for (int i = 0; i < n; i++) {
            World w = world.copied();
            for (Runner r : w.runners) {
                drawn = (int) (drawn * 1103515245L + 12345L);
                r.pace = (int) (((drawn & 0xffffffffL) >> 8) % 12) + 1;
            }
            had += w.raceIsOf(runner) ? 1 : 0;
        }
        return had;
    }

    private int unwilling() {
        TreeSet<Integer> who = new TreeSet<>();
        World w = world.lined();
        for (int i = 0; i < 2000; i++) {
            World then = w.next();
            int f = w.first();
            if (f >= 0) {
                Runner r = w.runners.get(f);
                int ran = then.runners.get(f).yards - r.yards;
                if (ran < r.pace && r.breath >= Math.max(0, r.pace - 4)) {
                    who.add(f);
                }
            }
            w = then;
        }
        return who.stream().mapToInt(r -> 1 << r).sum();
    }

    private int feed(int bytes, int n) {
        want(within(n, 1, 4), Check.BEYOND);
        want(tape.size() + n <= 120, Check.FULL);
        int[] parts = {bytes >> 24 & 255, bytes >> 16 & 255, bytes >> 8 & 255, bytes & 255};
        for (int k = 4 - n; k < 4; k++) {
            tape.add(parts[k]);
        }
        return tape.size();
    }

    private int wipe() {
        int had = tape.size();
        tape = new ArrayList<>();
        return had;
    }

    /** Tokens with their places; the end is one of no length, a byte that begins none is one by itself. */
    private List<String> tokens;
    private List<Integer> at;
    private int k;

    /** How a text ends at its fault. */
    private static final class Fault extends Exception {
        private static final long serialVersionUID = 1L;
    }

    private int text() {
        StringBuilder chars = new StringBuilder();
        for (int b : tape) {
            chars.append((char) b);
        }
        wipe();
        tokens = new ArrayList<>();
        at = new ArrayList<>();
        k = 0;
        Matcher m = Pattern.compile("[a-z]+|[0-9]+|[^ ]", Pattern.DOTALL).matcher(chars);
        while (m.find()) {
            tokens.add(m.group());
            at.add(m.start());
        }
        tokens.add("");
        at.add(chars.length());
        World w = world.copied();
        int items = 0;
        try {
            while (true) {
                item(w);
                items++;
                if (tokens.get(k).isEmpty()) {
                    world = w;
                    return items;
                }
                word(";");
            }
        } catch (Fault f) {
            return -1 - at.get(k);
        }
    }

    private void word(String word) throws Fault {
        if (!tokens.get(k).equals(word)) {
            throw new Fault();
        }
        k++;
    }

    private int number(int least, int most) throws Fault {
        String t = tokens.get(k);
        if (!t.matches("0*[0-9]{1,4}") || Integer.parseInt(t.replaceAll("^0+(?=.)", "")) < least
            || Integer.parseInt(t.replaceAll("^0+(?=.)", "")) > most) {
            throw new Fault();
        }
        k++;
        return Integer.parseInt(t.replaceAll("^0+(?=.)", ""));
    }

    private boolean perhaps(String word) {
        boolean there = tokens.get(k).equals(word);
        k += there ? 1 : 0;
        return there;
    }

    private void item(World w) throws Fault {
        if (w.runners.isEmpty() && perhaps("length")) {
            w.length = number(10, 9999);
            return;
        }
        if (perhaps("least")) {
            w.least = number(0, 5);
            return;
        }
        if (perhaps("law")) {
            w.law = number(0, 3);
            return;
        }
        List<String> kinds = Arrays.asList("runner", "holder", "keeper", "helper", "sprinter", "idler");
        Runner r = new Runner();
        r.kind = kinds.indexOf(tokens.get(k));
        if (r.kind < 0 || w.runners.size() == 9) {
            throw new Fault();
        }
        k++;
        word("pace");
        r.pace = number(1, 12);
        r.breath = perhaps("breath") ? number(0, 999) : 100;
        r.friend = perhaps("friend") ? number(0, w.runners.size() - 1) : -1;
        r.start = perhaps("start") ? number(0, w.length - 1) : 0;
        r.yards = r.start;
        w.runners.add(r);
    }

    private int sheet(int s, int width, int n) {
        want(within(s, 0, 3) && List.of(0, 8, 16, 64).contains(width), Check.BEYOND);
        want(n >= 0, Check.SIZE);
        want(n <= 40, Check.BEYOND);
        bits[s] = width;
        sheets[s] = width == 0 ? null : new long[n];
        return width == 0 ? 0 : n;
    }

    private long[] there(int s) {
        want(within(s, 0, 3), Check.BEYOND);
        want(sheets[s] != null, Check.MISSING);
        return sheets[s];
    }

    private void put(int s, int i, long v) {
        sheets[s][i] = v << (64 - bits[s]) >> (64 - bits[s]);
    }

    private long write(int s, int i, long v) {
        long[] row = there(s);
        want(within(i, 0, row.length - 1), Check.BEYOND);
        long was = row[i];
        put(s, i, v);
        return was;
    }

    private int copy(int s, int from, int t, int to, int n) {
        want(within(s, 0, 3) && within(t, 0, 3), Check.BEYOND);
        want(sheets[s] != null && sheets[t] != null, Check.MISSING);
        want(bits[s] == bits[t], Check.KIND);
        want(from >= 0 && to >= 0 && n >= 0, Check.BEYOND);
        want((long) from + n <= sheets[s].length && (long) to + n <= sheets[t].length, Check.BEYOND);
        long[] were = sheets[s].clone();
        for (int i = 0; i < n; i++) {
            sheets[t][to + i] = were[from + i];
        }
        return n;
    }

    private int lays(int s) {
        long[] row = there(s);
        int came = 0;
        for (int i = 0; i < row.length; i++) {
            if (i < world.runners.size() && row[i] >= 1 && row[i] <= 12) {
                world.runners.get(i).pace = (int) row[i];
                came++;
            }
        }
        return came;
    }

    private int film(int s, int runner) {
        long[] row = there(s);
        get(runner);
        for (int i = 0; i < row.length; i++) {
            put(s, i, world.on(i).runners.get(runner).yards);
        }
        return row.length;
    }

    private int read(int s) {
        long[] row = there(s);
        for (int r = 0; r < world.runners.size(); r++) {
            boolean fits = true;
            for (int i = 0; i < row.length; i++) {
                fits &= world.on(i).runners.get(r).yards == row[i];
            }
            if (fits) {
                return r;
            }
        }
        throw new Finding(Check.NONE);
    }

    private int undo() {
        want(kept != null, Check.NONE);
        world = kept.copied();
        return world.runners.size();
    }

    private int tear() {
        int had = kept == null ? 0 : 1;
        kept = null;
        return had;
    }

    private int count(int what) {
        want(within(what, 0, 4), Check.BEYOND);
        return new int[] {world.runners.size(), tape.size(), world.runners.stream().mapToInt(r -> r.yards).sum(),
            world.runners.stream().mapToInt(r -> r.breath).sum(),
            world.runners.stream().mapToInt(r -> r.points).sum()}[what];
    }

    private int status(int which) {
        want(within(which, -1, 6), Check.BEYOND);
        return which < 0 ? Arrays.stream(findings).sum() : findings[which];
    }
}
