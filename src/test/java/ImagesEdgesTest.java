/** Promises 40 to 44, and the findings that all share, at the edges that their sentences name. */
public final class ImagesEdgesTest {
    private static final int HOLDER = 1;

    public static void main(String[] args) throws Exception {
        Edge.run(ImagesEdgesTest.class, 40, 44);
    }

    // ---- promise 40: image

    static void anImageKeepsAllOfSection1() {
        Edge.promise(40, "All that section 1 tells (THE TAPE not) is kept: 1.");
        SecondHome x = Edge.some();
        String before = track(x);
        Edge.answers(x, 1, "image");
        x.wipe();
        x.feed('!', 1);
        x.sheet(0, 16, 1);
        x.write(0, 0, 300);
        x.seconds(600);
        x.score();
        x.let(1, 5);
        x.let(2, 0);
        for (int r = 0; r < 3; r++) {
            x.turn(r, 5);
            x.set(r, 1, 1);
            x.set(r, 2, 1);
            x.set(r, 3, (r + 1) % 3);
            x.set(r, 4, 39);
        }
        x.line();
        x.runner(0, 1, 0);
        Edge.answers(x, 3, "undo");
        Edge.same("all as it was", track(x), before);
        Edge.answers(x, 1, "count", 1);
        Edge.holds(x, 0, 300);
    }

    /** But for what undo() then becomes, all is as without the call, the tape and the sheets, too. */
    static void anImageChangesNothingElse() {
        Edge.promise(40, "All that section 1 tells (THE TAPE not) is kept: 1.");
        SecondHome x = torn();
        SecondHome like = torn();
        Edge.answers(x, 1, "image");
        Edge.answers(x, 1, "tear");
        Edge.same("kept and torn", Edge.whole(x), Edge.whole(like));
        SecondHome kept = Edge.some();
        kept.image();
        Edge.answers(kept, 26, "count", 1);
        kept.wipe();
        Edge.answers(kept, 3, "undo");
        Edge.answers(kept, 0, "count", 1);
    }

    static void anImageOfNothingAndOfAFullTrack() {
        Edge.promise(40, "is kept: 1.");
        SecondHome empty = new SecondHome();
        empty.let(0, 10);
        Edge.answers(empty, 1, "image");
        for (int r = 0; r < 9; r++) {
            empty.runner(0, 1, 0);
        }
        Edge.answers(empty, 0, "undo");
        Edge.answers(empty, 10, "let", 0, 9999);
        Edge.answers(empty, 0, "undo");
        Edge.answers(empty, 10, "now", 1);
        SecondHome full = Edge.many(9);
        Edge.answers(full, 1, "image");
        Edge.answers(full, 1, "image");
        full.seconds(600);
        Edge.answers(full, 9, "undo");
        Edge.answers(full, Check.FULL, "runner", 0, 1, 0);
        Edge.answers(full, 0, "now", 4);
    }

    /** What the calls tell of the track and its runners; the picture without the tape. */
    private static String track(SecondHome x) {
        StringBuilder b = new StringBuilder();
        for (int what = 0; what <= 4; what++) {
            b.append(x.now(what)).append(' ').append(what == 1 ? 0 : x.count(what)).append(' ');
        }
        for (int r = 0; r < x.count(0); r++) {
            for (int what = 0; what <= 8; what++) {
                b.append(x.of(r, what)).append(' ');
            }
        }
        return b.toString();
    }

    // ---- promise 41: undo

    static void undoTakesTheLatestWhichStays() {
        Edge.promise(41, "It becomes what was kept latest (which stays): how many RUNNERS.");
        SecondHome x = Edge.many(1);
        x.image();
        x.runner(0, 1, 0);
        x.image();
        x.set(0, 1, 9);
        for (int i = 0; i < 3; i++) {
            Edge.answers(x, 2, "undo");
            Edge.answers(x, 4, "of", 0, 1);
            x.set(0, 1, 9);
            x.runner(0, 1, 0);
            x.seconds(5);
        }
    }

    static void undoOfNothing() {
        Edge.promise(41, "NONE: nothing is kept.");
        Edge.refuses(SecondHome::new, Check.NONE, "undo");
        Edge.refuses(() -> Edge.many(9), Check.NONE, "undo");
        Edge.refuses(ImagesEdgesTest::torn, Check.NONE, "undo");
    }

    private static SecondHome torn() {
        SecondHome x = Edge.some();
        x.image();
        x.tear();
        return x;
    }

    // ---- promise 42: tear

    static void tearTellsWhetherSomethingWas() {
        Edge.promise(42, "Nothing is kept: 1 if something was, else 0.");
        SecondHome x = new SecondHome();
        Edge.answers(x, 0, "tear");
        x.image();
        x.image();
        x.undo();
        Edge.answers(x, 1, "tear");
        Edge.answers(x, 0, "tear");
        Edge.answers(x, Check.NONE, "undo");
        x.image();
        Edge.answers(x, 1, "tear");
        Edge.keeps(ImagesEdgesTest::torn, 0, "tear");
        SecondHome some = Edge.some();
        String before = Check.picture(some);
        Edge.answers(some, 1, "tear");
        Edge.same("nothing else changes", Check.picture(some), before);
    }

    // ---- promise 43: count

    static void countTellsFrom0To4() {
        Edge.promise(43, "0 RUNNERS, 1 bytes of THE TAPE, 2 YARDS of all together, 3 BREATH of all, 4 POINTS of all."
            + " BEYOND: another what.");
        for (int what : new int[] {Edge.LEAST, -1, 5, Edge.MOST}) {
            Edge.refuses(Edge::some, Check.BEYOND, "count", what);
            Edge.refuses(SecondHome::new, Check.BEYOND, "count", what);
        }
        for (int what = 0; what <= 4; what++) {
            Edge.keeps(SecondHome::new, 0, "count", what);
        }
        SecondHome x = new SecondHome();
        x.let(0, 9999);
        for (int r = 0; r < 9; r++) {
            x.runner(HOLDER, 12, 999);
            x.set(r, 4, 9998);
        }
        x.line();
        x.feed(0, 1);
        int[] due = {9, 1, 9 * 9998, 9 * 999, 0};
        for (int what = 0; what <= 4; what++) {
            Edge.answers(x, due[what], "count", what);
        }
        x.seconds(1);
        x.score();
        Edge.answers(x, 9 * 10010, "count", 2);
        Edge.answers(x, 9 * 991, "count", 3);
        Edge.answers(x, 46, "count", 4);
    }

    // ---- promise 44: status

    static void statusKnowsSevenFindings() {
        Edge.promise(44, "which -1: all, 0 to 6: BEYOND to SIZE.");
        SecondHome x = new SecondHome();
        for (int which = -1; which <= 6; which++) {
            Edge.answers(x, 0, "status", which);
        }
        x = eachFinding();
        int[] due = {7, 6, 5, 4, 3, 2, 1};
        for (int which = 0; which <= 6; which++) {
            Edge.answers(x, due[which], "status", which);
        }
        Edge.answers(x, 28, "status", -1);
    }

    private static SecondHome eachFinding() {
        SecondHome x = new SecondHome();
        String[] acts = {"let", "runner", "as", "undo", "score", "lays", "sheet"};
        long[][] numbers = {{3, 0}, {0, 1, 0}, {0, 1}, {}, {}, {0}, {0, 8, -1}};
        for (int r = 0; r < 9; r++) {
            x.runner(0, 1, 0);
        }
        for (int which = 0; which < acts.length; which++) {
            for (int i = which; i < acts.length; i++) {
                Edge.answers(x, Check.BEYOND - which, acts[which], numbers[which]);
            }
        }
        return x;
    }

    static void statusOfAnotherOneIsCounted() {
        Edge.promise(44, "BEYOND (counted from then on): another one.");
        for (int which : new int[] {Edge.LEAST, -2, 7, Edge.MOST}) {
            Edge.refuses(SecondHome::new, Check.BEYOND, "status", which);
            Edge.refuses(Edge::some, Check.BEYOND, "status", which);
        }
        SecondHome x = new SecondHome();
        for (int i = 1; i <= 3; i++) {
            Edge.answers(x, Check.BEYOND, "status", 7);
            Edge.answers(x, i, "status", 0);
            Edge.answers(x, i, "status", -1);
        }
    }

    static void undoTakesNoFindingBack() {
        Edge.promise(44, "How many acts answered a finding ever (undo() takes none back)");
        SecondHome x = new SecondHome();
        x.image();
        x.let(3, 0);
        x.undo();
        Edge.answers(x, 1, "status", 0);
        x.tear();
        x.undo();
        x.image();
        x.undo();
        Edge.answers(x, 1, "status", 3);
        Edge.answers(x, 2, "status", -1);
    }

    static void aFaultIsNoFinding() {
        Edge.terms(44, "FINDINGS are answers below -1000000000: -1000000001 BEYOND, -1000000002 FULL, -1000000003 KIND,"
            + " -1000000004 NONE, -1000000005 STATE, -1000000006 MISSING, -1000000007 SIZE (in longs, too).");
        SecondHome x = new SecondHome();
        Edge.answers(x, -1, "text");
        Edge.answers(x, 0, "status", -1);
        x.runner(0, 1, 0);
        Edge.answers(x, -1, "of", 0, 3);
        Edge.answers(x, -1, "of", 0, 7);
        Edge.answers(x, 0, "status", -1);
        x.let(2, 0);
        Edge.answers(x, -1, "friend", 0);
        Edge.answers(x, 0, "status", -1);
    }

    static void aFindingChangesNothingButStatus() {
        Edge.terms(44, "Each act tells its findings in the order in which they are asked;"
            + " one that answers a finding changes nothing but status().");
        Edge.refuses(() -> Edge.many(9), Check.BEYOND, "runner", 6, 13, 1000);
        Edge.refuses(() -> Edge.many(9), Check.BEYOND, "let", 0, 10000);
        Edge.refuses(() -> Edge.many(9), Check.STATE, "let", 0, 9999);
        Edge.refuses(Edge::some, Check.MISSING, "copy", 2, -1, 1, -1, -1);
        Edge.refuses(Edge::some, Check.KIND, "copy", 0, -1, 1, -1, -1);
        Edge.refuses(Edge::some, Check.MISSING, "film", 2, -1);
    }
}
