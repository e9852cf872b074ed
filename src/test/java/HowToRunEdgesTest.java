/** Promises 22 to 30 at the edges that their sentences, and those of the Terms, name. */
public final class HowToRunEdgesTest {
    private static final int RUNNER = 0;
    private static final int HOLDER = 1;
    private static final int KEEPER = 2;

    public static void main(String[] args) throws Exception {
        Edge.run(HowToRunEdgesTest.class, 22, 30);
    }

    /** So far that nobody is home in 2000 seconds, whichever pace it has. */
    private static SecondHome tooFar(int count) {
        int[][] runners = new int[count][];
        for (int r = 0; r < count; r++) {
            runners[r] = Edge.one(RUNNER, 4, 0, -1, 0);
        }
        return Edge.lined(9999, 0, 0, runners);
    }

    private static void refusesNoSuchRunner(String act, long... behind) {
        for (int r : new int[] {Edge.LEAST, -1, 3, 9, Edge.MOST}) {
            long[] numbers = new long[behind.length + 1];
            numbers[0] = r;
            System.arraycopy(behind, 0, numbers, 1, behind.length);
            Edge.refuses(Edge::some, Check.BEYOND, act, numbers);
        }
        long[] zero = new long[behind.length + 1];
        System.arraycopy(behind, 0, zero, 1, behind.length);
        Edge.refuses(SecondHome::new, Check.BEYOND, act, zero);
    }

    // ---- promise 22: pace

    private static SecondHome against(int law, int pace) {
        return Edge.lined(24, 1, law, Edge.one(RUNNER, 6, 999, -1, 0), Edge.one(RUNNER, pace, 999, -1, 0));
    }

    static void paceIs1To12() {
        Edge.promise(22, "The PACE (1 to 12) with which a RUNNER has the PRIZE of a RACE; of several the least.");
        Edge.keeps(() -> against(1, 6), 1, "pace", 0);
        Edge.keeps(() -> against(1, 12), 1, "pace", 0);
        Edge.keeps(() -> against(0, 1), 1, "pace", 0);
        Edge.keeps(() -> against(0, 2), 2, "pace", 0);
        Edge.keeps(() -> against(0, 12), 12, "pace", 0);
        Edge.keeps(() -> against(0, 11), 11, "pace", 0);
        Edge.keeps(() -> against(0, 6), 7, "pace", 1);
    }

    static void paceOfNobodyAndOfNone() {
        Edge.promise(22, "BEYOND. NONE.");
        refusesNoSuchRunner("pace");
        SecondHome x = against(0, 6);
        x.set(0, 1, 12);
        Edge.answers(x, Check.NONE, "pace", 1);
        Edge.refuses(() -> Edge.many(1), Check.NONE, "pace", 0);
        Edge.refuses(() -> tooFar(1), Check.NONE, "pace", 0);
        Edge.refuses(Edge::some, Check.NONE, "pace", 2);
    }

    // ---- promise 23: kind

    private static SecondHome sprint(int law, int pace) {
        return Edge.lined(10, 1, law, Edge.one(HOLDER, pace, 999, -1, 0), Edge.one(RUNNER, 5, 999, -1, 0));
    }

    static void kindIs0To5() {
        Edge.promise(23, "The KIND as one of which it has; of several the least.");
        Edge.keeps(() -> sprint(0, 12), 0, "kind", 0);
        Edge.keeps(() -> sprint(0, 5), 4, "kind", 1);
        Edge.keeps(() -> sprint(1, 12), 5, "kind", 0);
        Edge.keeps(() -> Edge.lined(40, 1, 1, Edge.one(0, 4, 99, -1, 0), Edge.one(0, 6, 99, -1, 0)), 1, "kind", 1);
        Edge.keeps(() -> Edge.lined(40, 1, 1, Edge.one(0, 6, 99, 1, 0), Edge.one(0, 5, 99, -1, 0)), 1, "kind", 0);
        Edge.keeps(() -> Edge.lined(40, 0, 1, Edge.one(0, 12, 999, 1, 0), Edge.one(0, 5, 99, -1, 0)), 2, "kind", 0);
    }

    static void kindOfNobodyAndOfNone() {
        Edge.promise(23, "BEYOND. NONE.");
        refusesNoSuchRunner("kind");
        Edge.refuses(() -> sprint(0, 1), Check.NONE, "kind", 0);
        Edge.refuses(() -> Edge.many(1), Check.NONE, "kind", 0);
        Edge.refuses(() -> tooFar(2), Check.NONE, "kind", 0);
        Edge.refuses(Edge::some, Check.NONE, "kind", 2);
    }

    // ---- promise 24: start

    private static SecondHome ahead(int length, int start) {
        return Edge.lined(length, 1, 0, Edge.one(RUNNER, 4, 0, -1, 1), Edge.one(RUNNER, 4, 0, -1, start));
    }

    static void startIsBelowLengthAnd200AtMost() {
        Edge.promise(24, "The START (0, 5, 10, .. below LENGTH, 200 at most) from which it has; of several the least.");
        Edge.keeps(() -> ahead(40, 0), 0, "start", 0);
        Edge.keeps(() -> ahead(40, 1), 5, "start", 0);
        Edge.keeps(() -> ahead(40, 5), 5, "start", 0);
        Edge.keeps(() -> ahead(40, 6), 10, "start", 0);
        Edge.keeps(() -> ahead(10, 5), 5, "start", 0);
        Edge.refuses(() -> ahead(10, 6), Check.NONE, "start", 0);
        Edge.keeps(() -> ahead(11, 7), 10, "start", 0);
        Edge.refuses(() -> ahead(12, 11), Check.NONE, "start", 0);
        Edge.refuses(() -> ahead(199, 196), Check.NONE, "start", 0);
        Edge.keeps(() -> ahead(200, 195), 195, "start", 0);
        Edge.refuses(() -> ahead(200, 199), Check.NONE, "start", 0);
        Edge.keeps(() -> ahead(201, 200), 200, "start", 0);
        Edge.keeps(() -> ahead(400, 200), 200, "start", 0);
        Edge.refuses(() -> ahead(400, 201), Check.NONE, "start", 0);
        Edge.keeps(() -> ahead(400, 196), 200, "start", 0);
    }

    static void startOfNobodyAndOfNone() {
        Edge.promise(24, "BEYOND. NONE.");
        refusesNoSuchRunner("start");
        Edge.refuses(() -> Edge.many(1), Check.NONE, "start", 0);
        Edge.refuses(() -> tooFar(1), Check.NONE, "start", 0);
    }

    // ---- promise 25: favours

    static void favoursIsASetOfFourLaws() {
        Edge.promise(25, "The LAWS by which a RUNNER has the PRIZE of a RACE, as a set.");
        int[][] due = {{9}, {13, 2}, {1, 14, 0}, {1, 10, 4, 0}, {1, 2, 8, 4, 0}, {1, 2, 8, 0, 4, 0}};
        for (int count = 1; count <= due.length; count++) {
            int there = count;
            for (int r = 0; r < count; r++) {
                Edge.keeps(() -> Edge.many(there), due[count - 1][r], "favours", r);
            }
        }
        int[] nine = {1, 2, 0, 0, 8, 0, 0, 4, 0};
        for (int r = 0; r < 9; r++) {
            Edge.keeps(() -> Edge.many(9), nine[r], "favours", r);
        }
    }

    static void aSetIsToldByBits() {
        Edge.terms(25, "Sets are told by bits.");
        int[] due = {1, 2, 4, 8};
        int[] whose = {0, 1, 7, 4};
        for (int law = 0; law < 4; law++) {
            SecondHome x = Edge.many(9);
            x.let(2, law);
            Edge.answers(x, whose[law], "race");
            Edge.answers(x, due[law], "favours", whose[law]);
        }
    }

    static void favoursWantsAllHome() {
        Edge.promise(25, "BEYOND. NONE: not all are HOME then.");
        refusesNoSuchRunner("favours");
        Edge.refuses(() -> tooFar(2), Check.NONE, "favours", 0);
        SecondHome just = Edge.lined(9999, 1, 1, Edge.one(0, 4, 0, -1, 1999));
        Edge.answers(just, 9, "favours", 0);
        just.set(0, 4, 1998);
        Edge.answers(just, Check.NONE, "favours", 0);
        just.seconds(600);
        Edge.answers(just, Check.NONE, "favours", 0);
    }

    // ---- promise 26: friend

    /** Behind the fastest alone the first one is second; without a friend it is first, behind another one last. */
    private static SecondHome following() {
        int[][] runners = new int[9][];
        runners[0] = Edge.one(KEEPER, 12, 999, 3, 0);
        for (int r = 1; r < 8; r++) {
            runners[r] = Edge.one(RUNNER, 2, 0, -1, 0);
        }
        runners[8] = Edge.one(RUNNER, 3, 0, -1, 0);
        return Edge.lined(30, 1, 1, runners);
    }

    static void friendIsNoneAheadOfAll() {
        Edge.promise(26, "Who should be the FRIEND of a RUNNER (-1: none) so that it has the PRIZE of a RACE;"
            + " -1 ahead of all, then of several the least.");
        Edge.keeps(HowToRunEdgesTest::following, 8, "friend", 0);
        Edge.keeps(() -> Edge.many(3), -1, "friend", 1);
        Edge.keeps(() -> Edge.lined(40, 1, 0, Edge.one(KEEPER, 1, 0, -1, 0)), -1, "friend", 0);
        SecondHome x = following();
        x.let(2, 0);
        Edge.answers(x, -1, "friend", 0);
        Edge.keeps(() -> Edge.lined(30, 1, 2, Edge.one(RUNNER, 3, 0, -1, 0), Edge.one(RUNNER, 3, 0, -1, 0),
            Edge.one(KEEPER, 12, 999, -1, 0), Edge.one(RUNNER, 1, 0, -1, 0)), 0, "friend", 2);
    }

    static void friendIsNeverItself() {
        Edge.terms(26, "a FRIEND (another RUNNER, or -1: none, at first)");
        Edge.keeps(() -> Edge.lined(40, 1, 1, Edge.one(KEEPER, 12, 999, -1, 0), Edge.one(RUNNER, 5, 99, -1, 0)),
            1, "friend", 0);
    }

    static void friendOfNobodyAndNobody() {
        Edge.promise(26, "BEYOND. NONE (as finding): nobody.");
        refusesNoSuchRunner("friend");
        Edge.refuses(() -> Edge.many(3), Check.NONE, "friend", 0);
        Edge.refuses(() -> Edge.many(1), Check.NONE, "friend", 0);
        Edge.refuses(() -> tooFar(2), Check.NONE, "friend", 0);
    }

    // ---- promise 27: deal

    /** Seven are home at once with any pace; of the other two, the faster one is the last but one. */
    private static SecondHome twoBehind() {
        int[][] runners = new int[9][];
        for (int r = 0; r < 7; r++) {
            runners[r] = Edge.one(RUNNER, 4, 0, -1, 9);
        }
        runners[7] = Edge.one(RUNNER, 4, 0, -1, 0);
        runners[8] = Edge.one(RUNNER, 3, 0, -1, 0);
        return Edge.lined(10, 1, 2, runners);
    }

    static void dealIsTheFirstTwo() {
        Edge.promise(27, "10 times the lesser, and the other one; the first.");
        Edge.keeps(() -> against(0, 5), 1, "deal");
        Edge.keeps(() -> against(0, 7), 1, "deal");
        Edge.keeps(HowToRunEdgesTest::twoBehind, 78, "deal");
        Edge.keeps(() -> Edge.lined(24, 1, 0, Edge.one(0, 4, 0, -1, 0), Edge.one(0, 4, 0, -1, 0),
            Edge.one(0, 3, 0, -1, 0)), 2, "deal");
    }

    /** By law 3 the places 3 0 1 2 give it to 0, and 0 1 2 3 to 1, who is none of the two. */
    static void dealMayGiveItToAThirdOne() {
        Edge.promise(27, "Two RUNNERS of whom, if they changed PACES, another one than now would have the PRIZE of a RACE:");
        Edge.keeps(() -> Edge.lined(60, 1, 3, Edge.one(0, 4, 0, -1, 0), Edge.one(0, 4, 0, -1, 0),
            Edge.one(0, 4, 0, -1, 0), Edge.one(0, 12, 999, -1, 0)), 3, "deal");
    }

    static void dealWantsOneWhoHasItAndTwo() {
        Edge.promise(27, "NONE: nobody has it now, or no two.");
        Edge.refuses(SecondHome::new, Check.NONE, "deal");
        Edge.refuses(() -> Edge.many(1), Check.NONE, "deal");
        Edge.refuses(() -> Edge.lined(40, 1, 0, Edge.one(0, 4, 0, -1, 0)), Check.NONE, "deal");
        Edge.refuses(() -> Edge.many(9), Check.NONE, "deal");
        Edge.refuses(() -> tooFar(2), Check.NONE, "deal");
        Edge.refuses(() -> lateOrNot(1, 4), Check.NONE, "deal");
        Edge.keeps(() -> lateOrNot(4, 1), 1, "race");
        Edge.refuses(() -> lateOrNot(4, 1), Check.NONE, "deal");
    }

    /** The one far behind is home after 2000 seconds at pace 4, and not with a lesser one. */
    private static SecondHome lateOrNot(int behind, int ahead) {
        return Edge.lined(9999, 1, 0, Edge.one(RUNNER, behind, 0, -1, 1999), Edge.one(RUNNER, ahead, 0, -1, 9990));
    }

    // ---- promise 28: fair

    /** Without breath the fastest runs 4, or the least pace: 5 yards a second are had with 5 alone. */
    private static SecondHome breathless(int other) {
        return Edge.lined(30, 1, 0, Edge.one(RUNNER, 12, 0, -1, 0), Edge.one(RUNNER, other, 999, -1, 0));
    }

    static void fairIs0To5() {
        Edge.promise(28, "LEAST PACE (0 to 5) with which the fastest PACE (of several the least RUNNER)"
            + " has the PRIZE of a RACE; of several the least.");
        Edge.keeps(() -> breathless(4), 0, "fair");
        Edge.keeps(() -> breathless(5), 5, "fair");
        Edge.refuses(() -> breathless(6), Check.NONE, "fair");
        Edge.keeps(() -> against(0, 6), 0, "fair");
        Edge.refuses(() -> against(1, 6), Check.NONE, "fair");
        Edge.keeps(() -> against(0, 7), 0, "fair");
    }

    static void fairOfNobodyAndOfNone() {
        Edge.promise(28, "NONE: nobody runs, or none.");
        Edge.refuses(SecondHome::new, Check.NONE, "fair");
        Edge.refuses(() -> Edge.many(1), Check.NONE, "fair");
        Edge.refuses(() -> Edge.many(9), Check.NONE, "fair");
        Edge.keeps(() -> Edge.lined(9999, 0, 0, Edge.one(0, 4, 0, -1, 0)), 5, "fair");
        Edge.refuses(() -> Edge.lined(9999, 0, 1, Edge.one(0, 4, 0, -1, 0)), Check.NONE, "fair");
    }

    // ---- promise 29: odds

    /** Two of whom each has breath for ten yards at any pace: the draws alone say who is first. */
    private static SecondHome dash() {
        return Edge.lined(10, 0, 0, Edge.one(RUNNER, 6, 999, -1, 0), Edge.one(RUNNER, 6, 999, -1, 0));
    }

    /** Without breath no pace is faster than 4. */
    private static SecondHome stroll() {
        return Edge.lined(10, 0, 0, Edge.one(RUNNER, 6, 0, -1, 0), Edge.one(RUNNER, 6, 0, -1, 0));
    }

    private static boolean isFirst(int pace, int other) {
        int seconds = (10 + pace - 1) / pace;
        int others = (10 + other - 1) / other;
        return seconds < others || seconds == others && seconds * pace >= others * other;
    }

    static void oddsIs1To20() {
        Edge.promise(29, "n RACES (1 to 20), ahead of each of which each RUNNER's PACE is a draw and 1, by numbers");
        Edge.keeps(() -> Edge.lined(10, 1, 0, Edge.one(0, 1, 0, -1, 0)), 1, "odds", 0, 1, 0);
        Edge.keeps(() -> Edge.lined(10, 1, 0, Edge.one(0, 1, 0, -1, 0)), 20, "odds", 0, 20, 0);
        Edge.keeps(() -> Edge.many(1), 0, "odds", 0, 20, 0);
        for (int n : new int[] {Edge.LEAST, -1, 0, 21, Edge.MOST}) {
            Edge.refuses(Edge::some, Check.BEYOND, "odds", 0, n, 1);
        }
        refusesNoSuchRunner("odds", 1, 0);
    }

    static void oddsDrawsGoRound() {
        Edge.promise(29, "By draws (z told: each makes it z times 1103515245 and 12345 more, an int that goes round,"
            + " and is the rest of z >>> 8 by 12");
        for (int z : new int[] {0, 1, -1, 255, 256, 1000000007, -1000000007, Edge.LEAST, Edge.LEAST + 1, Edge.MOST}) {
            long drawn = z & 0xffffffffL;
            int firsts = 0;
            int slowFirsts = 0;
            for (int n = 1; n <= 20; n++) {
                int[] paces = new int[2];
                for (int r = 0; r < 2; r++) {
                    drawn = (drawn * 1103515245L + 12345L) & 0xffffffffL;
                    paces[r] = (int) ((drawn >> 8) % 12) + 1;
                }
                firsts += isFirst(paces[0], paces[1]) ? 1 : 0;
                slowFirsts += isFirst(Math.min(4, paces[0]), Math.min(4, paces[1])) ? 1 : 0;
                Edge.answers(dash(), firsts, "odds", 0, n, z);
                Edge.answers(dash(), n - firsts, "odds", 1, n, z);
                Edge.answers(stroll(), slowFirsts, "odds", 0, n, z);
            }
        }
    }

    /** From 0 the draws are 0 6, 3 4, 6 4, 6 3: the paces 1 7, 4 5, 7 5, 7 4, counted by hand. */
    static void oddsOfTheFirstDraws() {
        Edge.promise(29, "how many of them a RUNNER has the PRIZE of.");
        int[] firsts = {0, 0, 1, 2};
        for (int n = 1; n <= 4; n++) {
            Edge.answers(dash(), firsts[n - 1], "odds", 0, n, 0);
        }
    }

    static void oddsChangesNothing() {
        Edge.promise(29, "Nothing changes. BEYOND.");
        Edge.keeps(HowToRunEdgesTest::dash, 1, "odds", 0, 3, 0);
        SecondHome x = dash();
        for (int i = 0; i < 3; i++) {
            Edge.answers(x, 1, "odds", 0, 3, 0);
        }
    }

    // ---- promise 30: unwilling

    static void unwillingWithBreathEnough() {
        Edge.promise(30, "though BREATH was as much as PACE is above 4 or more, as a set.");
        int[][] told = {{9, 4, 0}, {9, 5, 1}, {9, 6, 1}, {12, 7, 0}, {12, 8, 1}, {5, 0, 0}, {5, 1, 1}};
        for (int[] t : told) {
            Edge.keeps(() -> Edge.lined(40, 4, 1, Edge.one(HOLDER, t[0], t[1], -1, 30)), t[2], "unwilling");
        }
    }

    static void unwillingRunsLessThanPace() {
        Edge.promise(30, "FIRST alone as some SECOND of a RACE began, ran less than PACE in it");
        int[][] told = {{1, 1, 0}, {1, 2, 1}, {2, 2, 0}, {2, 3, 1}, {5, 4, 0}, {5, 5, 0}, {0, 1, 1}, {3, 4, 1}};
        for (int[] t : told) {
            Edge.keeps(() -> Edge.lined(40, t[0], 1, Edge.one(HOLDER, t[1], 99, -1, 30)), t[2], "unwilling");
        }
        Edge.keeps(() -> Edge.lined(40, 1, 1, Edge.one(HOLDER, 3, 99, -1, 30), Edge.one(HOLDER, 3, 99, -1, 30)),
            0, "unwilling");
        Edge.keeps(() -> Edge.lined(40, 1, 1, Edge.one(HOLDER, 3, 99, -1, 30), Edge.one(RUNNER, 1, 99, -1, 39)),
            1, "unwilling");
    }

    static void unwillingAsASet() {
        Edge.promise(30, "Who didn't want to win: those who, FIRST alone as some SECOND of a RACE began");
        Edge.keeps(SecondHome::new, 0, "unwilling");
        Edge.keeps(() -> Edge.many(9), 0, "unwilling");
        int[][] runners = new int[9][];
        for (int r = 0; r < 9; r++) {
            runners[r] = Edge.one(HOLDER, 5, 99, -1, 30);
        }
        runners[8] = Edge.one(HOLDER, 5, 99, -1, 31);
        runners[0] = Edge.one(RUNNER, 1, 99, -1, 0);
        Edge.keeps(() -> Edge.lined(40, 1, 1, runners), 256, "unwilling");
    }

    static void unwillingInARaceFromTheStart() {
        Edge.promise(30, "FIRST alone as some SECOND of a RACE began");
        SecondHome x = Edge.lined(40, 1, 1, Edge.one(HOLDER, 5, 99, -1, 30));
        x.seconds(600);
        Edge.answers(x, 1, "unwilling");
        SecondHome far = Edge.lined(40, 1, 1, Edge.one(HOLDER, 5, 99, -1, 39));
        far.set(0, 4, 30);
        far.set(0, 2, 0);
        far.let(1, 4);
        Edge.answers(far, 0, "unwilling");
    }

    static void unwillingInTheLastOf2000Seconds() {
        Edge.terms(30, "TO THE END: till all are HOME, or 2000 SECONDS ON.");
        int[][] told = {{1999, 1}, {2000, 0}};
        for (int[] t : told) {
            SecondHome x = Edge.lined(9999, 1, 1, Edge.one(HOLDER, 3, 0, -1, 7500 - 3 * t[0]));
            Edge.answers(x, t[1], "unwilling");
        }
    }
}
