/** Promises 10 to 15 at the edges that their sentences, and those of the Terms, name. */
public final class SecondsEdgesTest {
    private static final int RUNNER = 0;
    private static final int KEEPER = 2;
    private static final int HELPER = 3;
    private static final int SPRINTER = 4;

    public static void main(String[] args) throws Exception {
        Edge.run(SecondsEdgesTest.class, 10, 15);
    }

    // ---- promise 10: seconds

    static void secondsAre1To600() {
        Edge.promise(10, "n SECONDS go (1 to 600; as far as somebody isn't HOME): how many came HOME by them. BEYOND.");
        SecondHome x = Edge.lined(9999, 1, 1, Edge.one(RUNNER, 1, 0, -1, 0));
        Edge.answers(x, 0, "seconds", 1);
        Edge.answers(x, 1, "now", 0);
        Edge.answers(x, 0, "seconds", 600);
        Edge.answers(x, 601, "now", 0);
        Edge.answers(x, 601, "of", 0, 5);
        for (int n : new int[] {Edge.LEAST, -1, 0, 601, Edge.MOST}) {
            Edge.refuses(Edge::some, Check.BEYOND, "seconds", n);
            Edge.refuses(SecondHome::new, Check.BEYOND, "seconds", n);
        }
    }

    static void secondsTellHowManyCameHomeByThem() {
        Edge.promise(10, "how many came HOME by them.");
        SecondHome x = Edge.lined(10, 1, 1, Edge.one(RUNNER, 1, 0, -1, 9), Edge.one(RUNNER, 2, 0, -1, 8),
            Edge.one(RUNNER, 1, 0, -1, 8), Edge.one(RUNNER, 1, 0, -1, 0));
        Edge.answers(x, 2, "seconds", 1);
        Edge.answers(x, 1, "seconds", 1);
        Edge.answers(x, 0, "seconds", 7);
        Edge.answers(x, 1, "seconds", 600);
        Edge.answers(x, 0, "seconds", 600);
        Edge.answers(x, 10, "now", 0);
    }

    static void noSecondGoesIfAllAreHome() {
        Edge.terms(10, "A SECOND goes, if somebody isn't HOME");
        Edge.keeps(SecondHome::new, 0, "seconds", 1);
        Edge.keeps(SecondHome::new, 0, "seconds", 600);
        SecondHome x = Edge.lined(10, 1, 1, Edge.one(RUNNER, 3, 5, -1, 0));
        Edge.answers(x, 1, "seconds", 600);
        Edge.answers(x, 4, "now", 0);
        Edge.answers(x, 9, "of", 0, 2);
        Edge.answers(x, 0, "seconds", 1);
        Edge.answers(x, 4, "now", 0);
        Edge.answers(x, 9, "of", 0, 2);
        Edge.answers(x, 12, "of", 0, 5);
    }

    static void allRunByWhatWasWhenTheSecondBegan() {
        Edge.terms(10, "all as it is when the SECOND begins");
        SecondHome x = Edge.lined(40, 0, 1, Edge.one(KEEPER, 9, 99, 1, 0), Edge.one(KEEPER, 9, 99, 0, 0));
        x.seconds(1);
        Edge.answers(x, 1, "of", 0, 5);
        Edge.answers(x, 1, "of", 1, 5);
        SecondHome home = Edge.lined(40, 0, 1, Edge.one(RUNNER, 1, 0, -1, 39), Edge.one(HELPER, 3, 0, 0, 30));
        home.seconds(1);
        Edge.answers(home, 33, "of", 1, 5);
        home.seconds(1);
        Edge.answers(home, 33, "of", 1, 5);
    }

    static void whoIsHomeRunsNoMore() {
        Edge.terms(10, "for each that isn't HOME let w be its WISH, LEAST PACE at least.");
        SecondHome x = Edge.lined(40, 5, 1, Edge.one(KEEPER, 9, 9, 2, 10), Edge.one(RUNNER, 1, 9, -1, 35),
            Edge.one(RUNNER, 4, 9, -1, 5), Edge.one(RUNNER, 6, 9, -1, 0));
        x.seconds(1);
        int[][] told = {{15, 8}, {40, 8}, {10, 8}, {6, 7}};
        for (int r = 0; r < told.length; r++) {
            Edge.answers(x, told[r][0], "of", r, 5);
            Edge.answers(x, told[r][1], "of", r, 2);
        }
        x.seconds(1);
        Edge.answers(x, 40, "of", 1, 5);
        Edge.answers(x, 8, "of", 1, 2);
    }

    static void whoLacksBreathRuns4() {
        Edge.terms(10, "If BREATH is less than what w is above 4, it runs 4 (LEAST PACE at least), and BREATH stays");
        int[][] told = {{1, 5, 0, 4, 0}, {1, 12, 7, 4, 7}, {1, 12, 0, 4, 0}, {4, 5, 0, 4, 0}, {5, 6, 0, 5, 0},
            {5, 6, 1, 5, 1}, {5, 5, 0, 5, 0}, {5, 1, 0, 5, 0}, {0, 9, 4, 4, 4}};
        for (int[] t : told) {
            SecondHome x = Edge.lined(40, t[0], 1, Edge.one(RUNNER, t[1], t[2], -1, 0));
            x.seconds(1);
            Edge.answers(x, t[3], "of", 0, 5);
            Edge.answers(x, t[4], "of", 0, 2);
        }
        SecondHome sprinter = Edge.lined(40, 1, 1, Edge.one(SPRINTER, 12, 19, -1, 0), Edge.one(RUNNER, 1, 0, -1, 0));
        sprinter.seconds(1);
        Edge.answers(sprinter, 4, "of", 0, 5);
        Edge.answers(sprinter, 19, "of", 0, 2);
    }

    static void breathIsLessByWhatIsAbove4() {
        Edge.terms(10, "else it runs w, and BREATH is less by what w is above 4");
        int[][] told = {{4, 0, 0}, {4, 999, 999}, {5, 1, 0}, {5, 2, 1}, {12, 8, 0}, {12, 999, 991}};
        for (int[] t : told) {
            SecondHome x = Edge.lined(40, 1, 1, Edge.one(RUNNER, t[0], t[1], -1, 0));
            x.seconds(1);
            Edge.answers(x, t[0], "of", 0, 5);
            Edge.answers(x, t[2], "of", 0, 2);
        }
        SecondHome sprinter = Edge.lined(40, 1, 1, Edge.one(SPRINTER, 12, 20, -1, 0), Edge.one(RUNNER, 1, 0, -1, 0));
        sprinter.seconds(1);
        Edge.answers(sprinter, 24, "of", 0, 5);
        Edge.answers(sprinter, 0, "of", 0, 2);
    }

    static void breathIs1MoreBelow4And999AtMost() {
        Edge.terms(10, "if w is below 4, BREATH is 1 more (999 at most).");
        int[][] told = {{3, 0, 1}, {3, 997, 998}, {3, 998, 999}, {3, 999, 999}, {1, 999, 999}, {4, 998, 998}};
        for (int[] t : told) {
            SecondHome x = Edge.lined(40, 0, 1, Edge.one(RUNNER, t[0], t[1], -1, 0));
            x.seconds(1);
            Edge.answers(x, t[2], "of", 0, 2);
        }
        SecondHome x = Edge.lined(40, 1, 1, Edge.one(RUNNER, 1, 998, -1, 0));
        x.seconds(3);
        Edge.answers(x, 999, "of", 0, 2);
        SecondHome standing = Edge.lined(40, 0, 1, Edge.one(RUNNER, 1, 0, -1, 39), Edge.one(HELPER, 4, 5, 0, 0));
        standing.seconds(2);
        Edge.answers(standing, 4, "of", 1, 5);
        Edge.answers(standing, 6, "of", 1, 2);
    }

    static void homeAtLengthOrMore() {
        Edge.terms(10, "Whose YARDS are LENGTH or more then is HOME at that SECOND (the first SECOND is 1).");
        int[][] told = {{38, -1, 39, 0}, {39, 1, 40, 1}, {37, -1, 38, 0}};
        for (int[] t : told) {
            SecondHome x = Edge.lined(40, 1, 1, Edge.one(RUNNER, 1, 0, -1, t[0]));
            Edge.answers(x, t[3], "seconds", 1);
            Edge.answers(x, t[1], "of", 0, 7);
            Edge.answers(x, t[2], "of", 0, 5);
            Edge.answers(x, t[3], "now", 4);
        }
        SecondHome later = Edge.lined(40, 1, 1, Edge.one(RUNNER, 1, 0, -1, 38));
        later.seconds(600);
        Edge.answers(later, 2, "of", 0, 7);
        SecondHome late = Edge.lined(9999, 0, 1, Edge.one(RUNNER, 4, 0, -1, 0));
        for (int i = 0; i < 5; i++) {
            late.seconds(600);
        }
        Edge.answers(late, 2500, "of", 0, 7);
        Edge.answers(late, 2500, "now", 0);
    }

    static void yardsBeyondLengthAreKept() {
        Edge.terms(10, "YARDS beyond LENGTH are kept.");
        SecondHome x = Edge.lined(10, 1, 1, Edge.one(RUNNER, 12, 8, -1, 9), Edge.one(RUNNER, 1, 0, -1, 0));
        x.seconds(1);
        Edge.answers(x, 21, "of", 0, 5);
        x.seconds(600);
        Edge.answers(x, 21, "of", 0, 5);
        SecondHome sprinter = Edge.lined(10, 1, 1, Edge.one(SPRINTER, 12, 20, -1, 9), Edge.one(RUNNER, 1, 0, -1, 9));
        sprinter.seconds(1);
        Edge.answers(sprinter, 33, "of", 0, 5);
    }

    static void secondIsOneMore() {
        Edge.terms(10, "Then SECOND is one more.");
        SecondHome x = Edge.many(2);
        for (int second = 1; second <= 50; second++) {
            x.seconds(1);
            Edge.answers(x, second, "now", 0);
        }
        x.seconds(1);
        Edge.answers(x, 50, "now", 0);
    }

    // ---- promise 11: now

    static void nowTellsFrom0To4() {
        Edge.promise(11, "What 0 SECOND, 1 LENGTH, 2 LEAST PACE, 3 LAW, 4 how many are HOME. BEYOND.");
        int[] told = {4, 40, 2, 3, 1};
        for (int what = 0; what < told.length; what++) {
            Edge.keeps(Edge::some, told[what], "now", what);
        }
        for (int what : new int[] {Edge.LEAST, -1, 5, Edge.MOST}) {
            Edge.refuses(Edge::some, Check.BEYOND, "now", what);
            Edge.refuses(SecondHome::new, Check.BEYOND, "now", what);
        }
        SecondHome nine = Edge.many(9);
        nine.seconds(600);
        Edge.answers(nine, 9, "now", 4);
    }

    // ---- promise 12: place

    static void placesAreAsManyAsRunners() {
        Edge.promise(12, "Whose PLACE is i now. BEYOND.");
        for (int count = 0; count <= 9; count++) {
            SecondHome x = Edge.many(count);
            for (int i = 0; i < count; i++) {
                Edge.answers(x, i, "place", i);
            }
            Edge.answers(x, Check.BEYOND, "place", count);
        }
        for (int i : new int[] {Edge.LEAST, -1, 3, 9, Edge.MOST}) {
            Edge.refuses(Edge::some, Check.BEYOND, "place", i);
        }
        Edge.refuses(SecondHome::new, Check.BEYOND, "place", 0);
    }

    static void placesGoByHomeYardsAndNumber() {
        Edge.terms(12, "PLACES: those HOME by the SECOND in which they came HOME, then by how many YARDS they had"
            + " (more first), then by number; then those not HOME by YARDS (more first), then by number.");
        SecondHome x = Edge.lined(20, 1, 1, Edge.one(RUNNER, 1, 0, -1, 10), Edge.one(RUNNER, 3, 0, -1, 18),
            Edge.one(RUNNER, 4, 0, -1, 18), Edge.one(RUNNER, 4, 0, -1, 18), Edge.one(RUNNER, 12, 99, -1, 10),
            Edge.one(RUNNER, 9, 99, -1, 10), Edge.one(RUNNER, 1, 0, -1, 10), Edge.one(RUNNER, 2, 0, -1, 10));
        int[] atFirst = {1, 2, 3, 0, 4, 5, 6, 7};
        places(x, atFirst);
        x.seconds(2);
        int[] then = {2, 3, 4, 1, 5, 7, 0, 6};
        places(x, then);
    }

    private static void places(SecondHome x, int[] runners) {
        for (int i = 0; i < runners.length; i++) {
            Edge.answers(x, runners[i], "place", i);
            Edge.answers(x, i, "of", runners[i], 8);
        }
    }

    static void homeIsAheadOfMoreYards() {
        Edge.terms(12, "PLACES: those HOME by the SECOND in which they came HOME");
        SecondHome x = Edge.lined(20, 1, 1, Edge.one(RUNNER, 12, 99, -1, 9), Edge.one(RUNNER, 1, 0, -1, 19),
            Edge.one(RUNNER, 5, 99, -1, 10));
        x.seconds(2);
        int[] runners = {0, 1, 2};
        places(x, runners);
        SecondHome late = Edge.lined(20, 1, 1, Edge.one(RUNNER, 12, 99, -1, 7), Edge.one(RUNNER, 1, 0, -1, 19));
        late.seconds(2);
        int[] then = {1, 0};
        places(late, then);
    }

    static void place0IsTheFirst() {
        Edge.terms(12, "PLACE 0 is the first.");
        Edge.answers(Edge.many(1), 0, "place", 0);
        Edge.answers(Edge.lined(20, 1, 1, Edge.one(0, 1, 0, -1, 4), Edge.one(0, 1, 0, -1, 5)), 1, "place", 0);
    }

    // ---- promise 13: prize

    static void prizeOfEachLawForEachCount() {
        Edge.terms(13, "0 the first, 1 the second (at first), 2 the last but one, 3 the middle one"
            + " (PLACE: how many there are less 1, by 2).");
        int[][] due = {{Check.NONE, Check.NONE, Check.NONE, Check.NONE}, {0, Check.NONE, Check.NONE, 0}, {0, 1, 0, 0},
            {0, 1, 1, 1}, {0, 1, 2, 1}, {0, 1, 3, 2}, {0, 1, 4, 2}, {0, 1, 5, 3}, {0, 1, 6, 3}, {0, 1, 7, 4}};
        for (int count = 0; count <= 9; count++) {
            for (int law = 0; law < 4; law++) {
                SecondHome x = Edge.many(count);
                x.let(2, law);
                Edge.answers(x, due[count][law], "prize");
            }
            Edge.answers(Edge.many(count), due[count][1], "prize");
        }
    }

    static void theMiddleOfAnEvenCountIsCut() {
        Edge.terms(13, "Quotients are cut.");
        for (int count = 2; count <= 8; count += 2) {
            SecondHome x = Edge.many(count);
            x.let(2, 3);
            Edge.answers(x, count / 2 - 1, "prize");
        }
    }

    static void prizeIsNobodysWithoutSuchAPlace() {
        Edge.terms(13, "PRIZE: whose PLACE it is; nobody, if there is no such PLACE (without RUNNERS;"
            + " by LAW 1, 2 with one alone).");
        for (int law = 0; law < 4; law++) {
            int by = law;
            Edge.refuses(() -> Edge.lined(40, 1, by), Check.NONE, "prize");
        }
        for (int law = 1; law <= 2; law++) {
            int by = law;
            Edge.refuses(() -> Edge.lined(40, 1, by, Edge.one(0, 1, 0, -1, 0)), Check.NONE, "prize");
        }
        Edge.keeps(() -> Edge.lined(40, 1, 0, Edge.one(0, 1, 0, -1, 0)), 0, "prize");
        Edge.keeps(() -> Edge.lined(40, 1, 3, Edge.one(0, 1, 0, -1, 0)), 0, "prize");
    }

    static void prizeGoesByPlacesNow() {
        Edge.promise(13, "PRIZE by PLACES now. NONE: nobody's.");
        SecondHome x = Edge.lined(40, 1, 0, Edge.one(RUNNER, 1, 0, -1, 5), Edge.one(RUNNER, 7, 99, -1, 0));
        Edge.answers(x, 0, "prize");
        x.seconds(1);
        Edge.answers(x, 1, "prize");
        Edge.refuses(SecondHome::new, Check.NONE, "prize");
    }

    // ---- promise 14: score

    static void scoreWantsAllHome() {
        Edge.promise(14, "STATE: somebody isn't HOME, or there is nobody.");
        Edge.refuses(SecondHome::new, Check.STATE, "score");
        Edge.refuses(() -> Edge.many(1), Check.STATE, "score");
        Edge.refuses(Edge::some, Check.STATE, "score");
        SecondHome x = Edge.lined(10, 1, 1, Edge.one(RUNNER, 1, 0, -1, 9), Edge.one(RUNNER, 1, 0, -1, 8));
        x.seconds(1);
        Edge.answers(x, Check.STATE, "score");
        x.seconds(1);
        Edge.answers(x, 11, "score");
        x.runner(0, 1, 0);
        Edge.answers(x, Check.STATE, "score");
        Edge.answers(x, 11, "count", 4);
    }

    static void scoreOfEachCount() {
        Edge.promise(14, "All HOME get POINTS: as many as there are behind them of those HOME; the one of the PRIZE 10 more:"
            + " how many POINTS were given.");
        for (int count = 1; count <= 9; count++) {
            SecondHome x = Edge.many(count);
            x.seconds(600);
            int given = count * (count - 1) / 2 + (count > 1 ? 10 : 0);
            Edge.answers(x, given, "score");
            for (int r = 0; r < count; r++) {
                Edge.answers(x, count - 1 - r + (r == 1 ? 10 : 0), "of", r, 6);
            }
            Edge.answers(x, given, "score");
            Edge.answers(x, 2 * given, "count", 4);
        }
        int[] alone = {10, 0, 0, 10};
        for (int law = 0; law < 4; law++) {
            SecondHome x = Edge.lined(10, 1, law, Edge.one(0, 1, 0, -1, 9));
            x.seconds(1);
            Edge.answers(x, alone[law], "score");
            Edge.answers(x, alone[law], "of", 0, 6);
            Edge.answers(x, 0, "status", -1);
        }
    }

    // ---- promise 15: leads

    static void leadsOfSeveralTheLeast() {
        Edge.promise(15, "Who has most POINTS; of several the least. NONE: there is nobody.");
        Edge.refuses(SecondHome::new, Check.NONE, "leads");
        Edge.keeps(() -> Edge.many(1), 0, "leads");
        Edge.keeps(() -> Edge.many(9), 0, "leads");
        SecondHome x = Edge.many(9);
        x.seconds(600);
        x.score();
        Edge.answers(x, 1, "leads");
        SecondHome even = Edge.lined(10, 1, 0, Edge.one(0, 1, 0, -1, 0), Edge.one(0, 1, 0, -1, 9),
            Edge.one(0, 1, 0, -1, 0));
        even.seconds(600);
        even.score();
        Edge.answers(even, 1, "leads");
        even.set(1, 4, 0);
        even.set(2, 4, 9);
        even.line();
        even.seconds(600);
        even.score();
        Edge.answers(even, 12, "of", 1, 6);
        Edge.answers(even, 12, "of", 2, 6);
        Edge.answers(even, 1, "leads");
    }
}
