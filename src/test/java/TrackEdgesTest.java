/** Promises 1 to 9 at the edges that their sentences, and those of the Terms, name. */
public final class TrackEdgesTest {
    private static final int RUNNER = 0;
    private static final int HOLDER = 1;
    private static final int KEEPER = 2;
    private static final int HELPER = 3;
    private static final int SPRINTER = 4;
    private static final int IDLER = 5;

    public static void main(String[] args) throws Exception {
        Edge.run(TrackEdgesTest.class, 1, 9);
    }

    // ---- promise 1: a new object

    static void aNewObjectHasNothing() {
        Edge.promise(1, "No RUNNERS; THE TAPE is empty, no image is kept.");
        SecondHome x = new SecondHome();
        for (int what = 0; what <= 4; what++) {
            Edge.answers(x, 0, "count", what);
        }
        Edge.answers(x, 0, "wipe");
        Edge.answers(x, 0, "tear");
        Edge.answers(x, 0, "status", -1);
        Edge.refuses(SecondHome::new, Check.NONE, "undo");
        Edge.refuses(SecondHome::new, Check.BEYOND, "of", 0, 0);
        Edge.refuses(SecondHome::new, Check.BEYOND, "place", 0);
    }

    static void secondIs0AtFirst() {
        Edge.terms(1, "SECOND: 0 at first.");
        Edge.answers(new SecondHome(), 0, "now", 0);
        Edge.answers(new SecondHome(), 0, "now", 4);
    }

    static void the512thCallStillAnswers() {
        Edge.terms(1, "An object is used for at most 512 calls after it has been made");
        SecondHome x = new SecondHome();
        for (int i = 0; i < 511; i++) {
            x.let(3, 0);
        }
        Edge.answers(x, 511, "status", 0);
    }

    // ---- promise 2: let

    static void lengthIs10To9999() {
        Edge.terms(2, "LENGTH of the track: 10 to 9999 yards (200 at first).");
        SecondHome x = new SecondHome();
        Edge.answers(x, 200, "now", 1);
        Edge.answers(x, 200, "let", 0, 10);
        Edge.answers(x, 10, "let", 0, 9999);
        Edge.answers(x, 9999, "now", 1);
        for (int v : new int[] {Edge.LEAST, -10, 0, 9, 10000, Edge.MOST}) {
            Edge.refuses(SecondHome::new, Check.BEYOND, "let", 0, v);
        }
    }

    static void leastPaceIs0To5() {
        Edge.terms(2, "LEAST PACE: 0 to 5 yards a second (1 at first).");
        SecondHome x = new SecondHome();
        Edge.answers(x, 1, "now", 2);
        Edge.answers(x, 1, "let", 1, 0);
        Edge.answers(x, 0, "let", 1, 5);
        Edge.answers(x, 5, "now", 2);
        for (int v : new int[] {Edge.LEAST, -1, 6, Edge.MOST}) {
            Edge.refuses(SecondHome::new, Check.BEYOND, "let", 1, v);
            Edge.refuses(Edge::some, Check.BEYOND, "let", 1, v);
        }
    }

    static void lawIs0To3() {
        Edge.terms(2, "LAW of the prize: 0 the first, 1 the second (at first), 2 the last but one, 3 the middle one");
        SecondHome x = new SecondHome();
        Edge.answers(x, 1, "now", 3);
        Edge.answers(x, 1, "let", 2, 0);
        Edge.answers(x, 0, "let", 2, 3);
        Edge.answers(x, 3, "now", 3);
        for (int v : new int[] {Edge.LEAST, -1, 4, Edge.MOST}) {
            Edge.refuses(SecondHome::new, Check.BEYOND, "let", 2, v);
            Edge.refuses(Edge::some, Check.BEYOND, "let", 2, v);
        }
    }

    static void letKnowsThree() {
        Edge.promise(2, "LENGTH (what 0), LEAST PACE (1), LAW (2) becomes v: what it was.");
        for (int what : new int[] {Edge.LEAST, -1, 3, Edge.MOST}) {
            for (int v : new int[] {0, 1, 10}) {
                Edge.refuses(SecondHome::new, Check.BEYOND, "let", what, v);
                Edge.refuses(Edge::some, Check.BEYOND, "let", what, v);
            }
        }
    }

    static void lengthStaysOnceThereIsARunner() {
        Edge.promise(2, "BEYOND. STATE: LENGTH, and there is a RUNNER.");
        for (int v : new int[] {10, 199, 200, 9999}) {
            Edge.refuses(() -> Edge.many(1), Check.STATE, "let", 0, v);
            Edge.refuses(() -> Edge.many(9), Check.STATE, "let", 0, v);
        }
        Edge.refuses(Edge::some, Check.STATE, "let", 0, 40);
        Edge.refuses(() -> Edge.many(1), Check.BEYOND, "let", 0, 9);
        Edge.refuses(() -> Edge.many(1), Check.BEYOND, "let", 0, 10000);
        SecondHome x = new SecondHome();
        x.image();
        x.runner(RUNNER, 1, 0);
        Edge.answers(x, 1, "let", 1, 2);
        Edge.answers(x, 1, "let", 2, 2);
        x.undo();
        Edge.answers(x, 200, "let", 0, 10);
    }

    // ---- promise 3: runner

    static void runnersAreAtMost9() {
        Edge.terms(3, "RUNNERS 0, 1, .. (at most 9) are of KINDS");
        SecondHome x = new SecondHome();
        for (int r = 0; r < 9; r++) {
            Edge.answers(x, r, "runner", r % 6, r + 1, r);
        }
        for (int i = 0; i < 2; i++) {
            Edge.answers(x, Check.FULL, "runner", 0, 1, 0);
        }
        Edge.answers(x, 9, "count", 0);
        Edge.refuses(() -> Edge.many(9), Check.FULL, "runner", 0, 1, 0);
        Edge.refuses(() -> Edge.many(9), Check.FULL, "runner", 5, 12, 999);
    }

    static void paceAndBreathOfANewOne() {
        Edge.terms(3, "each with a PACE (1 to 12 yards a second), BREATH (0 to 999; 100 at first)");
        SecondHome x = new SecondHome();
        Edge.answers(x, 0, "runner", 0, 1, 0);
        Edge.answers(x, 1, "runner", 0, 12, 999);
        Edge.answers(x, 1, "of", 0, 1);
        Edge.answers(x, 0, "of", 0, 2);
        Edge.answers(x, 12, "of", 1, 1);
        Edge.answers(x, 999, "of", 1, 2);
        for (int pace : new int[] {Edge.LEAST, -1, 0, 13, Edge.MOST}) {
            Edge.refuses(SecondHome::new, Check.BEYOND, "runner", 0, pace, 0);
            Edge.refuses(Edge::some, Check.BEYOND, "runner", 0, pace, 0);
        }
        for (int breath : new int[] {Edge.LEAST, -1, 1000, Edge.MOST}) {
            Edge.refuses(SecondHome::new, Check.BEYOND, "runner", 0, 1, breath);
            Edge.refuses(Edge::some, Check.BEYOND, "runner", 0, 1, breath);
        }
    }

    static void aNewOneStandsAtStart0() {
        Edge.promise(3, "A new RUNNER at START 0: its number.");
        SecondHome x = Edge.some();
        Edge.answers(x, 3, "runner", IDLER, 7, 70);
        int[] told = {IDLER, 7, 70, -1, 0, 0, 0, -1, 3};
        for (int what = 0; what < told.length; what++) {
            Edge.answers(x, told[what], "of", 3, what);
        }
    }

    static void yardsAre0AtFirst() {
        Edge.terms(3, "at so many YARDS (0 at first;");
        SecondHome x = Edge.many(1);
        x.seconds(3);
        Edge.answers(x, 1, "runner", 0, 12, 0);
        Edge.answers(x, 12, "of", 0, 5);
        Edge.answers(x, 0, "of", 1, 5);
        Edge.answers(x, 12, "count", 2);
    }

    static void aNewOneHasNoFriendAndNoPoints() {
        Edge.terms(3, "a FRIEND (another RUNNER, or -1: none, at first), POINTS (0 at first)");
        SecondHome x = Edge.many(1);
        x.image();
        x.runner(HELPER, 12, 9);
        x.set(1, 3, 0);
        x.set(1, 4, 199);
        x.line();
        x.seconds(600);
        x.score();
        x.undo();
        Edge.answers(x, 1, "runner", 0, 4, 3);
        int[] told = {0, 4, 3, -1, 0, 0, 0, -1};
        for (int what = 0; what < told.length; what++) {
            Edge.answers(x, told[what], "of", 1, what);
        }
    }

    static void kindPaceAndBreathAreAskedAheadOfFull() {
        Edge.promise(3, "BEYOND: kind, pace, breath. FULL.");
        for (int kind : new int[] {Edge.LEAST, -1, 6, Edge.MOST}) {
            Edge.refuses(SecondHome::new, Check.BEYOND, "runner", kind, 1, 0);
            Edge.refuses(() -> Edge.many(9), Check.BEYOND, "runner", kind, 1, 0);
        }
        Edge.refuses(() -> Edge.many(9), Check.BEYOND, "runner", 0, 0, 0);
        Edge.refuses(() -> Edge.many(9), Check.BEYOND, "runner", 0, 13, 0);
        Edge.refuses(() -> Edge.many(9), Check.BEYOND, "runner", 0, 1, -1);
        Edge.refuses(() -> Edge.many(9), Check.BEYOND, "runner", 0, 1, 1000);
        Edge.answers(new SecondHome(), 0, "runner", 5, 1, 0);
    }

    // ---- promise 4: of

    static void ofTellsFrom0To8() {
        Edge.promise(4, "Of a RUNNER: what 0 KIND, 1 PACE, 2 BREATH, 3 FRIEND (-1), 4 START, 5 YARDS, 6 POINTS,"
            + " 7 SECOND at which it is HOME (-1: it isn't), 8 PLACE. BEYOND.");
        SecondHome x = Edge.lined(20, 1, 1, Edge.one(KEEPER, 5, 50, 1, 2), Edge.one(RUNNER, 4, 7, -1, 13));
        x.seconds(2);
        int[][] told = {{KEEPER, 5, 48, 1, 2, 12, 0, -1, 1}, {RUNNER, 4, 7, -1, 13, 21, 0, 2, 0}};
        for (int r = 0; r < 2; r++) {
            for (int what = 0; what <= 8; what++) {
                Edge.answers(x, told[r][what], "of", r, what);
            }
        }
        for (int wrong : new int[] {Edge.LEAST, -1, 9, Edge.MOST}) {
            Edge.refuses(Edge::some, Check.BEYOND, "of", 0, wrong);
            Edge.refuses(() -> Edge.many(9), Check.BEYOND, "of", wrong, 0);
        }
        Edge.refuses(Edge::some, Check.BEYOND, "of", 3, 0);
        Edge.answers(Edge.many(9), 8, "of", 8, 8);
    }

    /** Runner 3 is told by nine numbers of which no two are the same, so that none can stand for another one. */
    private static SecondHome scored() {
        SecondHome x = Edge.lined(40, 1, 1, Edge.one(RUNNER, 4, 0, -1, 30), Edge.one(RUNNER, 4, 0, -1, 0),
            Edge.one(RUNNER, 4, 0, -1, 4), Edge.one(RUNNER, 4, 7, 2, 20));
        x.seconds(600);
        x.score();
        return x;
    }

    static void ofTellsNineThings() {
        Edge.promise(4, "what 0 KIND, 1 PACE, 2 BREATH, 3 FRIEND (-1), 4 START, 5 YARDS, 6 POINTS");
        int[] told = {RUNNER, 4, 7, 2, 20, 40, 12, 5, 1};
        for (int what = 0; what < told.length; what++) {
            Edge.keeps(TrackEdgesTest::scored, told[what], "of", 3, what);
        }
    }

    static void homeOrNot() {
        Edge.terms(4, "HOME or not (at which SECOND).");
        SecondHome x = Edge.lined(10, 1, 1, Edge.one(RUNNER, 4, 0, -1, 1), Edge.one(RUNNER, 4, 0, -1, 0));
        int[][] homes = {{-1, -1}, {-1, -1}, {-1, -1}, {3, 3}};
        for (int[] home : homes) {
            Edge.answers(x, home[0], "of", 0, 7);
            Edge.answers(x, home[1], "of", 1, 7);
            x.seconds(1);
        }
        x.runner(RUNNER, 4, 0);
        x.seconds(2);
        Edge.answers(x, -1, "of", 2, 7);
        x.seconds(1);
        Edge.answers(x, 3, "of", 1, 7);
        Edge.answers(x, 6, "of", 2, 7);
        x.line();
        for (int r = 0; r < 3; r++) {
            Edge.answers(x, -1, "of", r, 7);
        }
    }

    // ---- promise 5: set

    static void setKnowsFour() {
        Edge.promise(5, "PACE (what 1), BREATH (2), FRIEND (3; -1 none), START (4; YARDS stay) of a RUNNER becomes v"
            + ": what it was.");
        for (int what : new int[] {Edge.LEAST, -1, 0, 5, 6, 7, 8, Edge.MOST}) {
            Edge.refuses(Edge::some, Check.BEYOND, "set", 0, what, 1);
        }
        SecondHome x = Edge.some();
        int yards = x.of(1, 5);
        Edge.answers(x, 0, "set", 1, 4, 39);
        Edge.answers(x, yards, "of", 1, 5);
        Edge.answers(x, 39, "of", 1, 4);
    }

    static void setChangesThatAlone() {
        Edge.promise(5, "of a RUNNER becomes v: what it was.");
        int[] told = {RUNNER, 4, 7, 2, 20, 40, 12, 5, 1};
        int[] others = {0, 9, 999, 0, 39};
        for (int what = 1; what <= 4; what++) {
            SecondHome x = scored();
            String before = Check.picture(x);
            Edge.answers(x, told[what], "set", 3, what, others[what]);
            for (int w = 0; w < told.length; w++) {
                Edge.answers(x, w == what ? others[w] : told[w], "of", 3, w);
            }
            Edge.answers(x, others[what], "set", 3, what, told[what]);
            Edge.same("set " + what + " and back", Check.picture(x), before);
        }
    }

    static void paceIs1To12() {
        Edge.terms(5, "PACE (1 to 12 yards a second)");
        SecondHome x = Edge.some();
        Edge.answers(x, 6, "set", 0, 1, 1);
        Edge.answers(x, 1, "set", 0, 1, 12);
        Edge.answers(x, 12, "of", 0, 1);
        for (int v : new int[] {Edge.LEAST, -1, 0, 13, Edge.MOST}) {
            Edge.refuses(Edge::some, Check.BEYOND, "set", 0, 1, v);
        }
    }

    static void breathIs0To999() {
        Edge.terms(5, "BREATH (0 to 999; 100 at first)");
        SecondHome x = Edge.some();
        Edge.answers(x, x.of(0, 2), "set", 0, 2, 0);
        Edge.answers(x, 0, "set", 0, 2, 999);
        Edge.answers(x, 999, "of", 0, 2);
        for (int v : new int[] {Edge.LEAST, -1, 1000, Edge.MOST}) {
            Edge.refuses(Edge::some, Check.BEYOND, "set", 0, 2, v);
        }
    }

    static void aFriendIsAnotherOneOrNone() {
        Edge.promise(5, "BEYOND (also itself as FRIEND).");
        SecondHome x = Edge.many(9);
        Edge.answers(x, -1, "set", 8, 3, 0);
        Edge.answers(x, 0, "set", 8, 3, 7);
        Edge.answers(x, 7, "set", 8, 3, -1);
        Edge.answers(x, -1, "set", 0, 3, 8);
        for (int v : new int[] {Edge.LEAST, -2, 1, 3, 9, Edge.MOST}) {
            Edge.refuses(Edge::some, Check.BEYOND, "set", 1, 3, v);
        }
        Edge.refuses(() -> Edge.many(1), Check.BEYOND, "set", 0, 3, 0);
        Edge.refuses(() -> Edge.many(9), Check.BEYOND, "set", 8, 3, 8);
        Edge.refuses(() -> Edge.many(9), Check.BEYOND, "set", 8, 3, 9);
        for (int r : new int[] {Edge.LEAST, -1, 3, 9, Edge.MOST}) {
            for (int what = 1; what <= 4; what++) {
                Edge.refuses(Edge::some, Check.BEYOND, "set", r, what, 1);
            }
        }
    }

    static void startIs0ToLengthLess1() {
        Edge.terms(5, "START, 0 to LENGTH less 1, is where it is set");
        for (int length : new int[] {10, 40, 9999}) {
            SecondHome x = Edge.lined(length, 1, 1, Edge.one(0, 1, 0, -1, 5));
            Edge.answers(x, 5, "set", 0, 4, length - 1);
            Edge.answers(x, length - 1, "set", 0, 4, 0);
            Edge.answers(x, 0, "of", 0, 4);
            for (int v : new int[] {Edge.LEAST, -1, length, Edge.MOST}) {
                Edge.refuses(() -> Edge.lined(length, 1, 1, Edge.one(0, 1, 0, -1, 5)), Check.BEYOND, "set", 0, 4, v);
            }
        }
        Edge.answers(Edge.many(1), 0, "set", 0, 4, 199);
        Edge.refuses(() -> Edge.many(1), Check.BEYOND, "set", 0, 4, 200);
    }

    // ---- promise 6: turn

    static void turnKnowsSixKinds() {
        Edge.promise(6, "A RUNNER becomes one of another KIND: what it was. BEYOND.");
        SecondHome x = Edge.some();
        Edge.answers(x, HOLDER, "turn", 0, 0);
        Edge.answers(x, 0, "turn", 0, 5);
        Edge.answers(x, 5, "of", 0, 0);
        Edge.answers(x, RUNNER, "turn", 2, 5);
        for (int kind : new int[] {Edge.LEAST, -1, 6, Edge.MOST}) {
            Edge.refuses(Edge::some, Check.BEYOND, "turn", 0, kind);
        }
        for (int r : new int[] {Edge.LEAST, -1, 3, 9, Edge.MOST}) {
            Edge.refuses(Edge::some, Check.BEYOND, "turn", r, 0);
        }
        Edge.refuses(SecondHome::new, Check.BEYOND, "turn", 0, 0);
        SecondHome other = scored();
        String before = Check.picture(other);
        Edge.answers(other, RUNNER, "turn", 3, HELPER);
        int[] told = {HELPER, 4, 7, 2, 20, 40, 12, 5, 1};
        for (int what = 0; what < told.length; what++) {
            Edge.answers(other, told[what], "of", 3, what);
        }
        Edge.answers(other, HELPER, "turn", 3, RUNNER);
        Edge.same("turn and back", Check.picture(other), before);
    }

    // ---- promise 7: as

    static void whichKindIsUnderWhich() {
        Edge.terms(7, "KINDS: 0 RUNNER, 1 HOLDER under RUNNER, 2 KEEPER under RUNNER, 3 HELPER under KEEPER,"
            + " 4 SPRINTER under HOLDER, 5 IDLER under HOLDER");
        int[] under = {0b000001, 0b000011, 0b000101, 0b001101, 0b010011, 0b100011};
        for (int kind = 0; kind < 6; kind++) {
            SecondHome x = Edge.lined(40, 1, 1, Edge.one(kind, 7, 0, -1, 0));
            for (int as = 0; as < 6; as++) {
                Edge.answers(x, (under[kind] >> as & 1) == 1 ? 7 : Check.KIND, "as", 0, as);
            }
        }
    }

    static void asAsksForBothAheadOfTheKind() {
        Edge.promise(7, "A RUNNER as one of a kind: PACE."
            + " BEYOND: no such one, kind. KIND: it isn't of that kind, nor of one under it.");
        for (int wrong : new int[] {Edge.LEAST, -1, 6, Edge.MOST}) {
            Edge.refuses(Edge::some, Check.BEYOND, "as", 0, wrong);
            Edge.refuses(Edge::some, Check.BEYOND, "as", wrong, 0);
        }
        Edge.refuses(Edge::some, Check.BEYOND, "as", 3, 0);
        Edge.refuses(Edge::some, Check.BEYOND, "as", 3, 5);
        Edge.refuses(SecondHome::new, Check.BEYOND, "as", 0, 0);
        Edge.refuses(Edge::some, Check.KIND, "as", 0, SPRINTER);
        Edge.refuses(Edge::some, Check.KIND, "as", 2, HOLDER);
        Edge.keeps(Edge::some, 5, "as", 1, KEEPER);
    }

    // ---- promise 8: wish

    static void wishOfNobodyAndOfOneHome() {
        Edge.promise(8, "WISH of a RUNNER now. BEYOND. STATE: it is HOME.");
        for (int r : new int[] {Edge.LEAST, -1, 3, 9, Edge.MOST}) {
            Edge.refuses(Edge::some, Check.BEYOND, "wish", r);
        }
        Edge.refuses(SecondHome::new, Check.BEYOND, "wish", 0);
        Edge.refuses(Edge::some, Check.STATE, "wish", 2);
        SecondHome x = Edge.lined(10, 1, 1, Edge.one(0, 1, 0, -1, 8));
        x.seconds(1);
        Edge.answers(x, 1, "wish", 0);
        x.seconds(1);
        Edge.answers(x, Check.STATE, "wish", 0);
        x.line();
        Edge.answers(x, 1, "wish", 0);
        Edge.keeps(Edge::some, 5, "wish", 1);
    }

    static void aWishIsWhatItWouldRun() {
        Edge.terms(8, "WISH of a RUNNER: how many yards it would run in this SECOND");
        int[] wishes = {6, 6, 3, 3, 12, 4};
        for (int kind = 0; kind < wishes.length; kind++) {
            int of = kind;
            SecondHome x = Edge.lined(100, 2, 1, Edge.one(of, 6, 99, 1, 70), Edge.one(RUNNER, 1, 99, -1, 73));
            Edge.keeps(() -> Edge.lined(100, 2, 1, Edge.one(of, 6, 99, 1, 70), Edge.one(RUNNER, 1, 99, -1, 73)),
                wishes[kind], "wish", 0);
            x.seconds(1);
            Edge.answers(x, 70 + wishes[kind], "of", 0, 5);
        }
        SecondHome breathless = Edge.lined(100, 2, 1, Edge.one(RUNNER, 6, 0, -1, 0));
        Edge.answers(breathless, 6, "wish", 0);
        SecondHome slow = Edge.lined(100, 5, 1, Edge.one(RUNNER, 1, 0, -1, 0));
        Edge.answers(slow, 1, "wish", 0);
    }

    static void aRunnerWishesItsPace() {
        Edge.terms(8, "RUNNER: PACE.");
        for (int least : new int[] {0, 5}) {
            SecondHome x = Edge.lined(40, least, 1, Edge.one(RUNNER, 1, 0, -1, 39), Edge.one(RUNNER, 12, 0, -1, 0));
            Edge.answers(x, 1, "wish", 0);
            Edge.answers(x, 12, "wish", 1);
        }
    }

    static void aHolderHoldsBackFromThreeQuartersOn() {
        Edge.terms(8, "HOLDER: as RUNNER, but LEAST PACE, if it is the first alone of those not HOME"
            + " and its YARDS are three quarters of LENGTH or more.");
        int[][] from = {{10, 8}, {11, 9}, {12, 9}, {13, 10}, {15, 12}, {40, 30}, {200, 150}, {9999, 7500}};
        for (int[] f : from) {
            Edge.answers(Edge.lined(f[0], 2, 1, Edge.one(HOLDER, 6, 0, -1, f[1] - 1)), 6, "wish", 0);
            Edge.answers(Edge.lined(f[0], 2, 1, Edge.one(HOLDER, 6, 0, -1, f[1])), 2, "wish", 0);
            Edge.answers(Edge.lined(f[0], 2, 1, Edge.one(HOLDER, 6, 0, -1, f[0] - 1)), 2, "wish", 0);
        }
        for (int least : new int[] {0, 5}) {
            Edge.answers(Edge.lined(40, least, 1, Edge.one(HOLDER, 3, 0, -1, 30)), least, "wish", 0);
        }
        SecondHome home = Edge.lined(40, 1, 1, Edge.one(HOLDER, 6, 90, -1, 24), Edge.one(RUNNER, 1, 0, -1, 39));
        home.seconds(1);
        Edge.answers(home, 1, "wish", 0);
    }

    static void firstAloneHasMoreThanEachOther() {
        Edge.terms(8, "FIRST (alone): its YARDS are more than those of each other one not HOME.");
        int[][] other = {{29, 1}, {30, 6}, {31, 6}};
        for (int[] o : other) {
            Edge.answers(Edge.lined(40, 1, 1, Edge.one(HOLDER, 6, 0, -1, 30), Edge.one(RUNNER, 1, 0, -1, o[0])),
                o[1], "wish", 0);
            Edge.answers(Edge.lined(40, 1, 1, Edge.one(RUNNER, 1, 0, -1, 0), Edge.one(RUNNER, 1, 0, -1, o[0]),
                Edge.one(HOLDER, 6, 0, -1, 30)), o[1], "wish", 2);
        }
        Edge.answers(Edge.lined(40, 1, 1, Edge.one(HOLDER, 6, 0, -1, 30)), 1, "wish", 0);
        Edge.answers(Edge.lined(40, 1, 1, Edge.one(SPRINTER, 6, 0, -1, 0)), 6, "wish", 0);
        Edge.answers(Edge.lined(10, 1, 1, Edge.one(RUNNER, 12, 8, -1, 0)), 1, "leaders");
    }

    static void aKeeperDoesNotComePastItsFriend() {
        Edge.terms(8, "KEEPER: as RUNNER, but at most so many that it doesn't come past its FRIEND (as that one is now),"
            + " if that one isn't HOME; 1 at least.");
        int[][] ahead = {{-20, 1}, {-1, 1}, {0, 1}, {1, 1}, {2, 2}, {4, 4}, {5, 5}, {6, 5}, {19, 5}};
        for (int kind = KEEPER; kind <= HELPER; kind++) {
            for (int[] a : ahead) {
                for (int least : new int[] {0, 1, 3}) {
                    SecondHome x = Edge.lined(40, least, 1, Edge.one(kind, 5, 0, 1, 20),
                        Edge.one(RUNNER, 12, 0, -1, 20 + a[0]));
                    Edge.answers(x, a[1], "wish", 0);
                }
            }
            Edge.answers(Edge.lined(40, 1, 1, Edge.one(kind, 5, 0, -1, 20), Edge.one(RUNNER, 1, 0, -1, 20)),
                5, "wish", 0);
        }
        SecondHome x = Edge.lined(40, 1, 1, Edge.one(KEEPER, 5, 9, 1, 38), Edge.one(RUNNER, 1, 0, -1, 39));
        x.seconds(1);
        Edge.answers(x, 5, "wish", 0);
    }

    static void aHelperLingersOnceItsFriendIsHome() {
        Edge.terms(8, "HELPER: as KEEPER, but LEAST PACE once its FRIEND is HOME.");
        for (int least : new int[] {0, 1, 5}) {
            SecondHome x = Edge.lined(40, 0, 1, Edge.one(HELPER, 3, 9, 1, 30), Edge.one(RUNNER, 1, 0, -1, 38));
            x.let(1, least);
            Edge.answers(x, 3, "wish", 0);
            x.let(1, 0);
            x.seconds(1);
            x.let(1, least);
            Edge.answers(x, 3, "wish", 0);
            x.let(1, 0);
            x.seconds(1);
            x.let(1, least);
            Edge.answers(x, least, "wish", 0);
            x.set(0, 3, -1);
            Edge.answers(x, 3, "wish", 0);
            x.set(0, 3, 1);
            x.line();
            Edge.answers(x, 3, "wish", 0);
        }
    }

    static void aSprinterRunsTwiceFromLengthLess40On() {
        Edge.terms(8, "SPRINTER: as HOLDER, but twice that, if its YARDS are LENGTH less 40 or more"
            + " and it isn't the first (of all, HOME ones, too).");
        int[][] at = {{100, 59, 7}, {100, 60, 14}, {100, 99, 14}, {41, 0, 7}, {41, 1, 14}, {40, 0, 14}, {10, 0, 14},
            {9999, 9958, 7}, {9999, 9959, 14}};
        for (int[] a : at) {
            SecondHome x = Edge.lined(a[0], 1, 1, Edge.one(SPRINTER, 7, 0, -1, a[1]),
                Edge.one(RUNNER, 1, 0, -1, a[0] - 1));
            Edge.answers(x, a[2], "wish", 0);
        }
        Edge.answers(Edge.lined(40, 1, 1, Edge.one(SPRINTER, 12, 0, -1, 0), Edge.one(RUNNER, 1, 0, -1, 0)),
            24, "wish", 0);
        Edge.answers(Edge.lined(40, 1, 1, Edge.one(SPRINTER, 1, 0, -1, 0), Edge.one(RUNNER, 1, 0, -1, 0)),
            2, "wish", 0);
    }

    static void aSprinterIsFirstWhileNoneIsHome() {
        Edge.terms(8, "For SPRINTERS: none is HOME, and it is FIRST.");
        int[][] other = {{69, 7}, {70, 14}, {71, 14}};
        for (int[] o : other) {
            Edge.answers(Edge.lined(100, 1, 1, Edge.one(SPRINTER, 7, 0, -1, 70), Edge.one(RUNNER, 1, 0, -1, o[0])),
                o[1], "wish", 0);
        }
        Edge.answers(Edge.lined(100, 3, 1, Edge.one(SPRINTER, 7, 0, -1, 75), Edge.one(RUNNER, 1, 0, -1, 74)),
            3, "wish", 0);
        Edge.answers(Edge.lined(100, 3, 1, Edge.one(SPRINTER, 7, 0, -1, 75), Edge.one(RUNNER, 1, 0, -1, 75)),
            14, "wish", 0);
        SecondHome x = Edge.lined(100, 3, 1, Edge.one(SPRINTER, 7, 0, -1, 66), Edge.one(RUNNER, 1, 0, -1, 97));
        x.seconds(1);
        Edge.answers(x, 70, "of", 0, 5);
        Edge.answers(x, 14, "wish", 0);
        x.seconds(1);
        Edge.answers(x, 14, "wish", 0);
        x.seconds(1);
        Edge.answers(x, 78, "of", 0, 5);
        Edge.answers(x, 6, "wish", 0);
    }

    /** From the line on, so that neither START nor the first SECOND can stand for what is now. */
    static void aSprinterGoesByWhatIsNow() {
        Edge.terms(8, "if its YARDS are LENGTH less 40 or more and it isn't the first");
        SecondHome behind = Edge.lined(100, 1, 1, Edge.one(SPRINTER, 4, 99, -1, 52), Edge.one(RUNNER, 4, 0, -1, 58));
        int[] wishes = {4, 4, 8, 8};
        int[] yards = {52, 56, 60, 68};
        for (int second = 0; second < wishes.length; second++) {
            Edge.answers(behind, yards[second], "of", 0, 5);
            Edge.answers(behind, wishes[second], "wish", 0);
            behind.seconds(1);
        }
        SecondHome first = Edge.lined(100, 1, 1, Edge.one(SPRINTER, 4, 99, -1, 59), Edge.one(RUNNER, 4, 0, -1, 58));
        for (int second = 0; second < 4; second++) {
            Edge.answers(first, 59 + 4 * second, "of", 0, 5);
            Edge.answers(first, 4, "wish", 0);
            first.seconds(1);
        }
    }

    static void anIdlerWishesAtMostLeastPaceAnd2() {
        Edge.terms(8, "IDLER: as HOLDER, but never more than LEAST PACE and 2.");
        int[][] told = {{0, 1, 1}, {0, 2, 2}, {0, 3, 2}, {0, 12, 2}, {1, 2, 2}, {1, 3, 3}, {1, 4, 3}, {5, 1, 1},
            {5, 6, 6}, {5, 7, 7}, {5, 8, 7}, {5, 12, 7}};
        for (int[] t : told) {
            Edge.answers(Edge.lined(40, t[0], 1, Edge.one(IDLER, t[1], 0, -1, 29)), t[2], "wish", 0);
            Edge.answers(Edge.lined(40, t[0], 1, Edge.one(IDLER, t[1], 0, -1, 30)), t[0], "wish", 0);
            Edge.answers(Edge.lined(40, t[0], 1, Edge.one(IDLER, t[1], 0, -1, 30), Edge.one(RUNNER, 1, 0, -1, 30)),
                t[2], "wish", 0);
        }
    }

    // ---- promise 9: line

    static void lineTellsHowManyWereHome() {
        Edge.promise(9, "All to their START, not HOME, SECOND 0 (BREATH, POINTS stay): how many were HOME.");
        Edge.keeps(SecondHome::new, 0, "line");
        Edge.keeps(() -> Edge.many(9), 0, "line");
        SecondHome x = Edge.lined(40, 1, 0, Edge.one(RUNNER, 8, 99, -1, 39), Edge.one(RUNNER, 3, 99, -1, 0));
        x.seconds(1);
        Edge.answers(x, 1, "line");
        Edge.answers(x, 0, "line");
        x.seconds(600);
        x.score();
        Edge.answers(x, 2, "line");
        int[][] told = {{0, 8, 91, -1, 39, 39, 11, -1, 0}, {0, 3, 114, -1, 0, 0, 0, -1, 1}};
        for (int r = 0; r < 2; r++) {
            for (int what = 0; what <= 8; what++) {
                Edge.answers(x, told[r][what], "of", r, what);
            }
        }
        Edge.answers(x, 0, "now", 0);
        Edge.answers(x, 0, "now", 4);
        SecondHome nine = Edge.many(9);
        nine.seconds(600);
        Edge.answers(nine, 9, "line");
    }
}
