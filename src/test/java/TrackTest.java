/** Promises 1 to 9: a new object, the track and its runners, what they wish, the line. */
public final class TrackTest {
    public static void main(String[] args) {
        newObject();
        let();
        runner();
        of();
        set();
        turnAndAs();
        wishOfRunnersAndHolders();
        wishOfKeepersAndHelpers();
        wishOfSprintersAndIdlers();
        wishFindings();
        line();
        Check.end();
    }

    private static void newObject() {
        SecondHome x = new SecondHome();
        int[] now = {0, 200, 1, 1, 0};
        for (int what = 0; what <= 4; what++) {
            Check.due("new now(" + what + ")", x.now(what), now[what]);
            Check.due("new count(" + what + ")", x.count(what), 0);
        }
        Check.due("new status", x.status(-1), 0);
        Check.due("new tear", x.tear(), 0);
        Check.due("new wipe", x.wipe(), 0);
        Check.due("new undo", x.undo(), Check.NONE);
        for (int s = 0; s < 4; s++) {
            Check.due("new sheet " + s, x.write(s, 0, 1), Check.MISSING);
        }
    }

    private static void let() {
        SecondHome x = new SecondHome();
        int[] lowest = {10, 0, 0};
        int[] highest = {9999, 5, 3};
        int[] first = {200, 1, 1};
        for (int what = 0; what < 3; what++) {
            String call = "let(" + what + ")";
            Check.due(call + " one below", x.let(what, lowest[what] - 1), Check.BEYOND);
            Check.due(call + " one above", x.let(what, highest[what] + 1), Check.BEYOND);
            Check.due(call + " far above", x.let(what, Integer.MAX_VALUE), Check.BEYOND);
            Check.due(call + " far below", x.let(what, Integer.MIN_VALUE), Check.BEYOND);
            Check.due(call + " least", x.let(what, lowest[what]), first[what]);
            Check.due(call + " greatest", x.let(what, highest[what]), lowest[what]);
            Check.due(call + " stands", x.now(what + 1), highest[what]);
        }
        Check.due("let(-1, 10)", x.let(-1, 10), Check.BEYOND);
        Check.due("let(3, 10)", x.let(3, 10), Check.BEYOND);
        x.runner(0, 1, 0);
        Check.due("BEYOND ahead of STATE", x.let(0, 9), Check.BEYOND);
        Check.due("LENGTH with a RUNNER", x.let(0, 100), Check.STATE);
        Check.due("LENGTH stays", x.now(1), 9999);
        Check.due("LEAST PACE with a RUNNER", x.let(1, 2), 5);
        Check.due("LAW with a RUNNER", x.let(2, 0), 3);
    }

    private static void runner() {
        SecondHome x = new SecondHome();
        int[][] wrong = {{-1, 1, 0}, {6, 1, 0}, {0, 0, 0}, {0, 13, 0}, {0, 1, -1}, {0, 1, 1000},
            {Integer.MIN_VALUE, 1, 0}, {0, Integer.MAX_VALUE, 0}, {0, 1, Integer.MIN_VALUE}};
        for (int[] w : wrong) {
            Check.due("runner one off", x.runner(w[0], w[1], w[2]), Check.BEYOND);
        }
        Check.due("least of all", x.runner(0, 1, 0), 0);
        Check.due("greatest of all", x.runner(5, 12, 999), 1);
        for (int r = 2; r < 9; r++) {
            Check.due("runner " + r, x.runner(r % 6, r, r), r);
        }
        Check.due("a 10th", x.runner(0, 1, 0), Check.FULL);
        Check.due("BEYOND ahead of FULL", x.runner(6, 1, 0), Check.BEYOND);
        Check.due("how many", x.count(0), 9);
    }

    private static void of() {
        SecondHome x = new SecondHome();
        Check.due("of nobody", x.of(0, 0), Check.BEYOND);
        x.runner(4, 7, 33);
        x.runner(0, 8, 0);
        int[] told = {4, 7, 33, -1, 0, 0, 0, -1, 0};
        for (int what = 0; what <= 8; what++) {
            Check.due("of(0, " + what + ")", x.of(0, what), told[what]);
        }
        Check.due("of(1, 8)", x.of(1, 8), 1);
        Check.due("of(0, -1)", x.of(0, -1), Check.BEYOND);
        Check.due("of(0, 9)", x.of(0, 9), Check.BEYOND);
        Check.due("of(-1, 0)", x.of(-1, 0), Check.BEYOND);
        Check.due("of(2, 0)", x.of(2, 0), Check.BEYOND);
        x.set(1, 4, 199);
        x.line();
        x.seconds(1);
        Check.due("YARDS beyond LENGTH are kept", x.of(1, 5), 203);
        Check.due("HOME at 1", x.of(1, 7), 1);
        Check.due("PLACE 0", x.of(1, 8), 0);
        x.score();
        Check.due("no POINTS while one isn't HOME", x.of(1, 6), 0);
    }

    private static void set() {
        SecondHome x = new SecondHome();
        x.runner(0, 5, 50);
        x.runner(1, 6, 60);
        int[] lowest = {0, 1, 0, -1, 0};
        int[] highest = {0, 12, 999, 1, 199};
        int[] first = {0, 5, 50, -1, 0};
        for (int what = 1; what <= 4; what++) {
            String call = "set(0, " + what + ")";
            Check.due(call + " one below", x.set(0, what, lowest[what] - 1), Check.BEYOND);
            Check.due(call + " one above", x.set(0, what, highest[what] + 1), Check.BEYOND);
            Check.due(call + " greatest", x.set(0, what, highest[what]), first[what]);
            Check.due(call + " least", x.set(0, what, lowest[what]), highest[what]);
            Check.due(call + " stands", x.of(0, what), lowest[what]);
        }
        Check.due("itself as FRIEND", x.set(0, 3, 0), Check.BEYOND);
        Check.due("KIND isn't set", x.set(0, 0, 1), Check.BEYOND);
        Check.due("YARDS aren't set", x.set(0, 5, 1), Check.BEYOND);
        Check.due("no such one", x.set(2, 1, 1), Check.BEYOND);
        Check.due("below all", x.set(-1, 1, 1), Check.BEYOND);
        x.set(1, 4, 20);
        Check.due("YARDS stay", x.of(1, 5), 0);
    }

    private static void turnAndAs() {
        SecondHome x = new SecondHome();
        x.runner(0, 7, 0);
        String[] isOf = {"0", "01", "02", "023", "014", "015"};
        for (int kind = 0; kind < 6; kind++) {
            Check.due("turn to " + kind, x.turn(0, kind), Math.max(0, kind - 1));
            for (int as = 0; as < 6; as++) {
                int due = isOf[kind].indexOf('0' + as) >= 0 ? 7 : Check.KIND;
                Check.due("kind " + kind + " as " + as, x.as(0, as), due);
            }
        }
        Check.due("turn to the same", x.turn(0, 5), 5);
        Check.due("turn(0, -1)", x.turn(0, -1), Check.BEYOND);
        Check.due("turn(0, 6)", x.turn(0, 6), Check.BEYOND);
        Check.due("turn(1, 0)", x.turn(1, 0), Check.BEYOND);
        Check.due("turn(-1, 0)", x.turn(-1, 0), Check.BEYOND);
        Check.due("as(0, 6)", x.as(0, 6), Check.BEYOND);
        Check.due("as(0, -1)", x.as(0, -1), Check.BEYOND);
        Check.due("as(1, 0)", x.as(1, 0), Check.BEYOND);
        Check.due("as(-1, 0)", x.as(-1, 0), Check.BEYOND);
    }

    /** A track with runners of a pace at so many yards, runner by runner: kind, pace, yards. */
    private static SecondHome track(int length, int least, int... told) {
        SecondHome x = new SecondHome();
        x.let(0, length);
        x.let(1, least);
        for (int i = 0; i < told.length; i += 3) {
            x.set(x.runner(told[i], told[i + 1], 999), 4, told[i + 2]);
        }
        x.line();
        return x;
    }

    private static void wishOfRunnersAndHolders() {
        Check.due("RUNNER", track(100, 5, 0, 3, 99).wish(0), 3);
        Check.due("HOLDER below three quarters", track(100, 2, 1, 6, 74).wish(0), 6);
        Check.due("HOLDER at three quarters, alone", track(100, 2, 1, 6, 75).wish(0), 2);
        holdsBackFrom(10, 8);
        holdsBackFrom(11, 9);
        holdsBackFrom(12, 9);
        holdsBackFrom(13, 10);
        holdsBackFrom(15, 12);
        holdsBackFrom(200, 150);
        holdsBackFrom(9999, 7500);
        Check.due("HOLDER not first", track(100, 2, 1, 6, 80, 0, 1, 81).wish(0), 6);
        Check.due("HOLDER not first alone", track(100, 2, 1, 6, 80, 0, 1, 80).wish(0), 6);
        SecondHome x = track(100, 2, 1, 6, 80, 0, 12, 99);
        x.seconds(1);
        Check.due("HOLDER first of those not HOME", x.wish(0), 2);
    }

    /** Three quarters aren't cut to whole yards, for HOLDERS and for all who are under them. */
    private static void holdsBackFrom(int length, int yards) {
        for (int kind : new int[] {1, 4, 5}) {
            String who = "kind " + kind + " alone on " + length + " at ";
            Check.due(who + (yards - 1), track(length, 1, kind, 3, yards - 1).wish(0), 3);
            Check.due(who + yards, track(length, 1, kind, 3, yards).wish(0), 1);
        }
    }

    private static void wishOfKeepersAndHelpers() {
        SecondHome x = track(100, 2, 2, 6, 10, 0, 12, 13, 3, 6, 10, 0, 12, 99);
        Check.due("KEEPER without FRIEND", x.wish(0), 6);
        Check.due("HELPER without FRIEND", x.wish(2), 6);
        x.set(0, 3, 1);
        x.set(2, 3, 1);
        Check.due("KEEPER 3 behind", x.wish(0), 3);
        Check.due("HELPER 3 behind", x.wish(2), 3);
        x.set(0, 3, 2);
        Check.due("KEEPER beside: 1 at least, below LEAST PACE", x.wish(0), 1);
        x.set(0, 3, 3);
        x.set(2, 3, 3);
        Check.due("KEEPER far behind", x.wish(0), 6);
        x.seconds(1);
        Check.due("KEEPER, FRIEND HOME", x.wish(0), 6);
        Check.due("HELPER, FRIEND HOME", x.wish(2), 2);
        SecondHome y = track(100, 0, 3, 6, 20, 0, 1, 10);
        y.set(0, 3, 1);
        Check.due("HELPER ahead of its FRIEND", y.wish(0), 1);
    }

    private static void wishOfSprintersAndIdlers() {
        Check.due("SPRINTER first at LENGTH less 40", track(200, 1, 4, 6, 160).wish(0), 1);
        Check.due("SPRINTER below LENGTH less 40", track(200, 1, 4, 6, 159, 0, 1, 170).wish(0), 6);
        Check.due("SPRINTER at LENGTH less 40", track(200, 1, 4, 6, 160, 0, 1, 170).wish(0), 12);
        Check.due("SPRINTER beside another", track(200, 1, 4, 6, 160, 0, 1, 160).wish(0), 12);
        SecondHome x = track(200, 3, 4, 6, 160, 0, 12, 199);
        x.seconds(1);
        Check.due("SPRINTER first of those not HOME: twice LEAST PACE", x.wish(0), 6);
        Check.due("short track, first, below three quarters", track(20, 1, 4, 6, 10).wish(0), 6);
        Check.due("IDLER", track(200, 1, 5, 9, 0).wish(0), 3);
        Check.due("IDLER, slow", track(200, 5, 5, 2, 0).wish(0), 2);
        Check.due("IDLER holds back", track(200, 0, 5, 9, 150).wish(0), 0);
    }

    private static void wishFindings() {
        SecondHome x = track(10, 1, 0, 12, 0);
        Check.due("wish(-1)", x.wish(-1), Check.BEYOND);
        Check.due("wish(1)", x.wish(1), Check.BEYOND);
        x.seconds(1);
        Check.due("wish of one HOME", x.wish(0), Check.STATE);
    }

    private static void line() {
        SecondHome x = track(10, 1, 0, 12, 3, 0, 1, 0);
        Check.due("nobody HOME", x.line(), 0);
        x.seconds(1);
        x.set(0, 4, 5);
        int breath = x.of(0, 2);
        Check.due("one HOME", x.line(), 1);
        Check.due("at the new START", x.of(0, 5), 5);
        Check.due("not HOME", x.of(0, 7), -1);
        Check.due("SECOND 0", x.now(0), 0);
        Check.due("BREATH stays", x.of(0, 2), breath);
        x.seconds(600);
        x.score();
        x.line();
        Check.due("POINTS stay", x.count(4), 11);
        Check.due("nobody is HOME then", x.now(4), 0);
    }
}
