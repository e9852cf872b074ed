import java.util.Arrays;
import java.util.Random;

/** Runs of drawn calls, with numbers within and far beyond what is allowed, answered by SecondHome and by Model. */
public final class ModelTest {
    private static final int RUNS = 400;
    private static final int CALLS = 512;
    private static final String[] CALL = {"let", "runner", "of", "set", "turn", "as", "wish", "line", "seconds", "now",
        "place", "prize", "score", "leads", "on", "home", "prizeBy", "leaders", "passes", "race", "pace", "kind", "start",
        "favours", "friend", "deal", "fair", "odds", "unwilling", "feed", "wipe", "text", "sheet", "write", "copy", "lays",
        "film", "read", "image", "undo", "tear", "count", "status"};
    private static final int[] ANY = {Integer.MIN_VALUE, Integer.MAX_VALUE, -2, -1, 0, 1, 9, 10, 41, 601, 2001, 10000};
    private static final String[] WORDS = {"runner", "holder", "keeper", "helper", "sprinter", "idler", "pace", "breath",
        "friend", "start", "length", "least", "law", ";", " ", "7", "0", "12", "13", "1000", "99999999999", "x", "?", "00003",
        "; ", "\n", "\u00e9"};

    private final Random draw;
    private final SecondHome x = new SecondHome();
    private final Model m = new Model();
    private final StringBuilder told = new StringBuilder();

    private ModelTest(int seed) {
        draw = new Random(seed);
    }

    public static void main(String[] args) {
        int faults = 0;
        for (int run = 0; run < RUNS && faults < 3; run++) {
            faults += new ModelTest(run).run(run) ? 0 : 1;
        }
        Check.end();
    }

    private boolean run(int run) {
        if (draw.nextInt(4) > 0) {
            if (!same("let", 0, lengthDrawn()) || !same("let", 1, draw.nextInt(6)) || !same("let", 2, draw.nextInt(4))) {
                return false;
            }
            for (int n = 1 + draw.nextInt(9); n > 0; n--) {
                if (!same("runner", draw.nextInt(6), 1 + draw.nextInt(12), draw.nextInt(60))) {
                    return false;
                }
            }
        }
        if (draw.nextBoolean() && !sameSheets()) {
            return false;
        }
        int dear = 0;
        for (int i = 0; i < CALLS - 20; i++) {
            String call = CALL[draw.nextInt(CALL.length)];
            boolean isDear = Arrays.asList("deal", "start", "odds", "read", "film", "friend", "pace", "favours").contains(call);
            if (isDear && dear++ > 12) {
                continue;
            }
            if (call.equals("text") && draw.nextInt(3) > 0 && !sameText()) {
                return false;
            }
            if (!same(call, numbersFor(call))) {
                return false;
            }
        }
        return true;
    }

    private boolean sameSheets() {
        for (int s = 0; s < 4; s++) {
            if (!same("sheet", s, new int[] {8, 16, 16, 64}[draw.nextInt(4)], draw.nextInt(41))) {
                return false;
            }
            for (int i = draw.nextInt(9); i > 0; i--) {
                if (!same("write", s, draw.nextInt(9), draw.nextInt(14)) || !same("write", s, any(40), draw.nextLong())) {
                    return false;
                }
            }
        }
        return same("film", 0, 0) && same("read", 0) && same("film", 1, 3) && same("read", 1) && same("lays", 2);
    }

    private int lengthDrawn() {
        int[] some = {10, 11, 13, 20, 40, 57, 60, 99, 200, 200 + draw.nextInt(300), 9999};
        return some[draw.nextInt(some.length)];
    }

    private boolean sameText() {
        StringBuilder b = new StringBuilder();
        for (int items = 1 + draw.nextInt(4); items > 0; items--) {
            b.append(WORDS[draw.nextInt(6)]).append(" pace ").append(1 + draw.nextInt(12));
            b.append(draw.nextInt(3) == 0 ? "breath " + draw.nextInt(999) : "");
            b.append(draw.nextInt(3) == 0 ? " friend " + draw.nextInt(6) : "");
            b.append(draw.nextInt(3) == 0 ? " start " + draw.nextInt(12) : "");
            b.append(draw.nextInt(4) == 0 ? ";law " + draw.nextInt(4) : "");
            b.append(draw.nextInt(4) == 0 ? " ; least" + draw.nextInt(6) : "");
            b.append(draw.nextInt(6) == 0 ? " ; length" + draw.nextInt(99) : "");
            b.append(draw.nextInt(5) == 0 ? WORDS[draw.nextInt(WORDS.length)] : "");
            b.append(items > 1 ? ";" : "");
        }
        if (draw.nextInt(3) == 0) {
            b.setLength(draw.nextInt(b.length() + 1));
        }
        if (!same("wipe")) {
            return false;
        }
        for (int i = 0; i < b.length(); i++) {
            if (!same("feed", b.charAt(i) | draw.nextInt() << 8, 1)) {
                return false;
            }
        }
        return true;
    }

    private long[] numbersFor(String call) {
        int r = any(9);
        switch (call) {
            case "let": return new long[] {any(3), any(6)};
            case "runner": return new long[] {any(6), any(13), any(1000)};
            case "of": return new long[] {r, any(9)};
            case "set": return setNumbers(r);
            case "turn": case "as": return new long[] {r, any(6)};
            case "seconds": return new long[] {draw.nextInt(3) > 0 ? 1 + draw.nextInt(9) : any(601)};
            case "on": return new long[] {r, draw.nextInt(3) > 0 ? draw.nextInt(30) : any(2001)};
            case "prizeBy": return new long[] {any(4)};
            case "now": case "count": return new long[] {any(5)};
            case "passes": return new long[] {r, any(9)};
            case "odds": return new long[] {r, any(21), draw.nextInt()};
            case "feed": return new long[] {draw.nextInt(), any(5)};
            case "sheet": return new long[] {any(4), new int[] {0, 8, 16, 64, 8, 16, 64, 32}[draw.nextInt(8)], any(41)};
            case "write": return new long[] {any(4), any(40), draw.nextBoolean() ? draw.nextLong() : draw.nextInt(14)};
            case "copy": return new long[] {any(4), any(12), any(4), any(12), any(12)};
            case "film": return new long[] {any(4), r};
            case "lays": case "read": return new long[] {any(4)};
            case "status": return new long[] {any(8) - 1};
            default: return new long[] {r};
        }
    }

    private long[] setNumbers(int r) {
        int what = any(5);
        return new long[] {r, what, any(what == 2 ? 1000 : what == 4 ? 60 : 13)};
    }

    private int any(int below) {
        return draw.nextInt(30) == 0 ? ANY[draw.nextInt(ANY.length)] : draw.nextInt(below);
    }

    private boolean same(String call, long... n) {
        told.append(call).append(Arrays.toString(n)).append('\n');
        long got;
        try {
            got = ask(call, n);
        } catch (RuntimeException e) {
            Check.fault(told + " threw " + e);
            return false;
        }
        long due = m.answer(call, n);
        if (got != due) {
            Check.due(told + "the latest", got, due);
            return false;
        }
        Check.due(call, got, due);
        return true;
    }

    private long ask(String call, long[] n) {
        int a = n.length > 0 ? (int) n[0] : 0;
        int b = n.length > 1 ? (int) n[1] : 0;
        int c = n.length > 2 ? (int) n[2] : 0;
        switch (call) {
            case "let": return x.let(a, b);
            case "runner": return x.runner(a, b, c);
            case "of": return x.of(a, b);
            case "set": return x.set(a, b, c);
            case "turn": return x.turn(a, b);
            case "as": return x.as(a, b);
            case "wish": return x.wish(a);
            case "line": return x.line();
            case "seconds": return x.seconds(a);
            case "now": return x.now(a);
            case "place": return x.place(a);
            case "prize": return x.prize();
            case "score": return x.score();
            case "leads": return x.leads();
            case "on": return x.on(a, b);
            case "home": return x.home(a);
            case "prizeBy": return x.prizeBy(a);
            case "leaders": return x.leaders();
            case "passes": return x.passes(a, b);
            case "race": return x.race();
            case "pace": return x.pace(a);
            case "kind": return x.kind(a);
            case "start": return x.start(a);
            case "favours": return x.favours(a);
            default: return askMore(call, n, a, b, c);
        }
    }

    private long askMore(String call, long[] n, int a, int b, int c) {
        switch (call) {
            case "friend": return x.friend(a);
            case "deal": return x.deal();
            case "fair": return x.fair();
            case "odds": return x.odds(a, b, c);
            case "unwilling": return x.unwilling();
            case "feed": return x.feed(a, b);
            case "wipe": return x.wipe();
            case "text": return x.text();
            case "sheet": return x.sheet(a, b, c);
            case "write": return x.write(a, b, n[2]);
            case "copy": return x.copy(a, b, c, (int) n[3], (int) n[4]);
            case "lays": return x.lays(a);
            case "film": return x.film(a, b);
            case "read": return x.read(a);
            case "image": return x.image();
            case "undo": return x.undo();
            case "tear": return x.tear();
            case "count": return x.count(a);
            case "status": return x.status(a);
            default: throw new IllegalArgumentException(call);
        }
    }
}
