/** Promises 16 to 21 at the edges that their sentences, and those of the Terms, name. */
public final class OnEdgesTest {
    private static final int RUNNER = 0;
    private static final int HOLDER = 1;

    public static void main(String[] args) throws Exception {
        Edge.run(OnEdgesTest.class, 16, 21);
    }

    /** One who is home ON 2000 seconds if it starts at 1999, and a second later from 1998. */
    private static SecondHome far(int law, int start) {
        return Edge.lined(9999, 1, law, Edge.one(RUNNER, 4, 0, -1, start), Edge.one(RUNNER, 4, 0, -1, 9990));
    }

    // ---- promise 16: on

    static void onIs0To2000() {
        Edge.promise(16, "YARDS of a RUNNER ON n SECONDS (0 to 2000). BEYOND.");
        SecondHome x = far(1, 0);
        Edge.answers(x, 0, "on", 0, 0);
        Edge.answers(x, 4, "on", 0, 1);
        Edge.answers(x, 7996, "on", 0, 1999);
        Edge.answers(x, 8000, "on", 0, 2000);
        for (int n : new int[] {Edge.LEAST, -1, 2001, Edge.MOST}) {
            Edge.refuses(Edge::some, Check.BEYOND, "on", 0, n);
        }
        for (int r : new int[] {Edge.LEAST, -1, 3, 9, Edge.MOST}) {
            Edge.refuses(Edge::some, Check.BEYOND, "on", r, 0);
            Edge.refuses(Edge::some, Check.BEYOND, "on", r, 2001);
        }
        Edge.refuses(SecondHome::new, Check.BEYOND, "on", 0, 0);
    }

    static void onChangesNothing() {
        Edge.terms(16, "ON: n SECONDS go on with all as it is (as far as somebody isn't HOME); nothing changes.");
        Edge.keeps(Edge::some, 24, "on", 0, 0);
        Edge.keeps(Edge::some, 30, "on", 0, 1);
        Edge.keeps(Edge::some, 40, "on", 0, 2000);
        Edge.keeps(Edge::some, 42, "on", 2, 0);
        Edge.keeps(Edge::some, 42, "on", 2, 2000);
    }

    // ---- promise 17: home

    static void homeIs2000SecondsOnAtMost() {
        Edge.terms(17, "TO THE END: till all are HOME, or 2000 SECONDS ON.");
        Edge.keeps(() -> far(1, 1999), 2000, "home", 0);
        Edge.refuses(() -> far(1, 1998), Check.NONE, "home", 0);
        SecondHome later = far(1, 1998);
        later.seconds(1);
        Edge.answers(later, 2001, "home", 0);
        SecondHome latest = far(1, 0);
        latest.seconds(499);
        Edge.answers(latest, Check.NONE, "home", 0);
        latest.seconds(1);
        Edge.answers(latest, 2500, "home", 0);
    }

    static void homeOfOneThatIsAndOfOneThatNeverIs() {
        Edge.promise(17, "At which SECOND a RUNNER is HOME TO THE END. BEYOND. NONE.");
        Edge.keeps(Edge::some, 4, "home", 2);
        Edge.keeps(() -> Edge.lined(10, 1, 1, Edge.one(0, 1, 0, -1, 9)), 1, "home", 0);
        Edge.keeps(() -> far(1, 0), 3, "home", 1);
        Edge.refuses(() -> Edge.lined(40, 0, 1, Edge.one(HOLDER, 4, 0, -1, 30)), Check.NONE, "home", 0);
        for (int r : new int[] {Edge.LEAST, -1, 3, 9, Edge.MOST}) {
            Edge.refuses(Edge::some, Check.BEYOND, "home", r);
        }
        Edge.refuses(SecondHome::new, Check.BEYOND, "home", 0);
    }

    // ---- promise 18: prizeBy

    static void prizeByKnowsFourLaws() {
        Edge.promise(18, "PRIZE TO THE END by a LAW. BEYOND.");
        int[] due = {1, 0, 1, 1};
        for (int law = 0; law < 4; law++) {
            Edge.keeps(() -> far(2, 1999), due[law], "prizeBy", law);
        }
        for (int law : new int[] {Edge.LEAST, -1, 4, Edge.MOST}) {
            Edge.refuses(Edge::some, Check.BEYOND, "prizeBy", law);
            Edge.refuses(SecondHome::new, Check.BEYOND, "prizeBy", law);
        }
    }

    static void prizeByWantsAllHome() {
        Edge.promise(18, "NONE: nobody's, or not all are HOME.");
        for (int law = 0; law < 4; law++) {
            Edge.refuses(SecondHome::new, Check.NONE, "prizeBy", law);
            Edge.refuses(() -> far(1, 1998), Check.NONE, "prizeBy", law);
            if (law == 1 || law == 2) {
                Edge.refuses(() -> Edge.many(1), Check.NONE, "prizeBy", law);
            } else {
                Edge.keeps(() -> Edge.many(1), 0, "prizeBy", law);
            }
        }
        SecondHome later = far(1, 1998);
        later.seconds(1);
        Edge.answers(later, 1, "prizeBy", 0);
    }

    // ---- promise 19: leaders

    static void leadersAreCountedWhenAnotherOneLeads() {
        Edge.promise(19, "how often it is another one than the latest that was (the first time counts).");
        Edge.keeps(SecondHome::new, 0, "leaders");
        Edge.keeps(() -> Edge.many(1), 1, "leaders");
        Edge.keeps(() -> Edge.many(2), 0, "leaders");
        Edge.keeps(() -> Edge.lined(40, 1, 1, Edge.one(0, 4, 0, -1, 1), Edge.one(0, 4, 0, -1, 0)), 1, "leaders");
        SecondHome home = Edge.many(2);
        home.seconds(600);
        Edge.answers(home, 0, "leaders");
        SecondHome inTurn = Edge.lined(40, 1, 1, Edge.one(HOLDER, 6, 99, -1, 30), Edge.one(0, 3, 0, -1, 29));
        Edge.answers(inTurn, 3, "leaders");
    }

    static void leadersAfterATieIsNotAnotherOne() {
        Edge.promise(19, "Of those who are FIRST alone ON 0, 1, .. SECONDS TO THE END");
        SecondHome same = Edge.lined(40, 1, 1, Edge.one(HOLDER, 6, 99, -1, 30), Edge.one(0, 2, 0, -1, 29),
            Edge.one(0, 12, 999, -1, 0));
        Edge.answers(same, 2, "leaders");
        same.seconds(1);
        Edge.answers(same, same.of(0, 5), "of", 1, 5);
        SecondHome home = Edge.lined(12, 1, 1, Edge.one(0, 5, 1, -1, 0), Edge.one(0, 4, 0, -1, 1),
            Edge.one(0, 1, 0, -1, 0));
        Edge.answers(home, 2, "leaders");
    }

    static void leadersCountsOn2000() {
        Edge.terms(19, "TO THE END: till all are HOME, or 2000 SECONDS ON.");
        Edge.keeps(() -> chase(1999), 2, "leaders");
        Edge.keeps(() -> chase(2000), 1, "leaders");
    }

    /** One who comes a yard nearer to another one in each second. */
    private static SecondHome chase(int gap) {
        return Edge.lined(9999, 1, 1, Edge.one(RUNNER, 1, 0, -1, gap), Edge.one(RUNNER, 2, 0, -1, 0));
    }

    // ---- promise 20: passes

    static void passesIs0To2000() {
        Edge.promise(20, "The first SECOND (from now on, 0 to 2000) ON at which a RUNNER's YARDS are more"
            + " than those of another one.");
        Edge.keeps(() -> chase(1), 0, "passes", 0, 1);
        Edge.keeps(() -> chase(0), 1, "passes", 1, 0);
        Edge.keeps(() -> chase(1), 2, "passes", 1, 0);
        Edge.keeps(() -> chase(1999), 2000, "passes", 1, 0);
        Edge.refuses(() -> chase(2000), Check.NONE, "passes", 1, 0);
        SecondHome later = chase(2000);
        later.seconds(1);
        Edge.answers(later, 2000, "passes", 1, 0);
    }

    static void passesOfNoTwo() {
        Edge.promise(20, "BEYOND (also one and the same). NONE.");
        for (int r = 0; r < 3; r++) {
            Edge.refuses(Edge::some, Check.BEYOND, "passes", r, r);
        }
        for (int r : new int[] {Edge.LEAST, -1, 3, 9, Edge.MOST}) {
            Edge.refuses(Edge::some, Check.BEYOND, "passes", 0, r);
            Edge.refuses(Edge::some, Check.BEYOND, "passes", r, 0);
            Edge.refuses(Edge::some, Check.BEYOND, "passes", r, r);
        }
        Edge.refuses(SecondHome::new, Check.BEYOND, "passes", 0, 1);
        Edge.refuses(() -> Edge.many(2), Check.NONE, "passes", 0, 1);
        Edge.refuses(() -> Edge.many(2), Check.NONE, "passes", 1, 0);
    }

    static void passesInTheLastSecondAndOfThoseHome() {
        Edge.promise(20, "ON at which a RUNNER's YARDS are more than those of another one.");
        SecondHome x = Edge.lined(10, 1, 1, Edge.one(RUNNER, 1, 0, -1, 9), Edge.one(RUNNER, 4, 0, -1, 7));
        Edge.answers(x, 1, "passes", 1, 0);
        x.seconds(1);
        Edge.answers(x, 0, "passes", 1, 0);
        Edge.answers(x, Check.NONE, "passes", 0, 1);
    }

    // ---- promise 21: race

    static void raceWantsAllHome() {
        Edge.promise(21, "PRIZE of a RACE. NONE: nobody's, or not all are HOME.");
        Edge.keeps(() -> far(1, 1999), 0, "race");
        Edge.keeps(() -> far(0, 1999), 1, "race");
        Edge.refuses(() -> far(1, 1998), Check.NONE, "race");
        Edge.refuses(() -> far(0, 1998), Check.NONE, "race");
        for (int law = 0; law < 4; law++) {
            int by = law;
            Edge.refuses(() -> Edge.lined(40, 1, by), Check.NONE, "race");
        }
        Edge.refuses(() -> Edge.many(1), Check.NONE, "race");
        Edge.refuses(() -> Edge.lined(40, 1, 2, Edge.one(0, 1, 0, -1, 0)), Check.NONE, "race");
        Edge.keeps(() -> Edge.lined(40, 1, 0, Edge.one(0, 1, 0, -1, 0)), 0, "race");
        Edge.keeps(() -> Edge.lined(40, 1, 3, Edge.one(0, 1, 0, -1, 0)), 0, "race");
    }

    static void aRaceBeginsAtTheStart() {
        Edge.terms(21, "A RACE: all to their START, not HOME, SECOND 0, BREATH as it is told now: TO THE END; then PRIZE.");
        SecondHome x = far(1, 1998);
        x.seconds(600);
        Edge.answers(x, Check.NONE, "race");
        SecondHome home = Edge.lined(20, 1, 0, Edge.one(RUNNER, 5, 4, -1, 0), Edge.one(RUNNER, 4, 0, -1, 0));
        Edge.answers(home, 0, "race");
        home.seconds(600);
        Edge.answers(home, 0, "of", 0, 2);
        Edge.answers(home, 0, "prize");
        home.set(1, 4, 1);
        Edge.answers(home, 1, "race");
        home.set(1, 4, 0);
        Edge.answers(home, 0, "race");
        SecondHome tired = Edge.lined(20, 1, 0, Edge.one(RUNNER, 4, 0, -1, 0), Edge.one(RUNNER, 5, 4, -1, 0));
        Edge.answers(tired, 1, "race");
        tired.seconds(600);
        Edge.answers(tired, 0, "race");
    }
}
