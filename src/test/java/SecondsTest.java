/** Promises 10 to 15: seconds go, who is where, who has the prize, points. */
public final class SecondsTest {
    public static void main(String[] args) {
        breath();
        atOnce();
        seconds();
        now();
        places();
        prize();
        score();
        leads();
        Check.end();
    }

    /** Yards and breath of one alone after a second, as 10000 times the yards and the breath. */
    private static int oneSecond(int least, int pace, int breath) {
        SecondHome x = new SecondHome();
        x.let(1, least);
        x.runner(0, pace, breath);
        x.seconds(1);
        return 10000 * x.of(0, 5) + x.of(0, 2);
    }

    private static void breath() {
        Check.due("pace 9, breath 5", oneSecond(1, 9, 5), 90000);
        Check.due("pace 9, breath 4: it runs 4", oneSecond(1, 9, 4), 40004);
        Check.due("pace 9, breath 999", oneSecond(1, 9, 999), 90994);
        Check.due("pace 4", oneSecond(1, 4, 7), 40007);
        Check.due("pace 3", oneSecond(1, 3, 7), 30008);
        Check.due("pace 3, breath 998", oneSecond(1, 3, 998), 30999);
        Check.due("pace 3, breath 999", oneSecond(1, 3, 999), 30999);
        Check.due("pace 1, LEAST PACE 4", oneSecond(4, 1, 7), 40007);
        Check.due("pace 1, LEAST PACE 5", oneSecond(5, 1, 7), 50006);
        Check.due("LEAST PACE 5, no breath", oneSecond(5, 1, 0), 50000);
        Check.due("pace 12, LEAST PACE 5, no breath", oneSecond(5, 12, 0), 50000);
    }

    /** A keeper looks at where its friend is as the second begins, whichever number is less. */
    private static void atOnce() {
        SecondHome x = new SecondHome();
        x.runner(0, 5, 99);
        x.runner(2, 9, 99);
        x.set(1, 3, 0);
        x.seconds(1);
        Check.due("friend", x.of(0, 5), 5);
        Check.due("keeper", x.of(1, 5), 1);
        x.seconds(1);
        Check.due("keeper comes to where its friend was", x.of(1, 5), 5);
        Check.due("breath of the keeper, 3 and 4 yards later", x.of(1, 2), 100);
    }

    private static void seconds() {
        SecondHome x = new SecondHome();
        Check.due("seconds(0)", x.seconds(0), Check.BEYOND);
        Check.due("seconds(601)", x.seconds(601), Check.BEYOND);
        Check.due("seconds(-1)", x.seconds(-1), Check.BEYOND);
        Check.due("without runners", x.seconds(600), 0);
        Check.due("SECOND stays", x.now(0), 0);
        x.let(0, 10);
        x.runner(0, 4, 0);
        x.runner(0, 2, 0);
        Check.due("seconds(1)", x.seconds(1), 0);
        Check.due("two more", x.seconds(2), 1);
        Check.due("HOME at 3", x.of(0, 7), 3);
        Check.due("600 more", x.seconds(600), 1);
        Check.due("as far as somebody isn't HOME", x.now(0), 5);
        Check.due("who is HOME stays", x.of(0, 5), 12);
        Check.due("BREATH of who is HOME stays", x.of(0, 2), 0);
    }

    private static void now() {
        SecondHome x = new SecondHome();
        Check.due("now(-1)", x.now(-1), Check.BEYOND);
        Check.due("now(5)", x.now(5), Check.BEYOND);
        x.let(0, 12);
        x.let(1, 3);
        x.let(2, 2);
        x.runner(0, 12, 99);
        x.runner(0, 4, 99);
        x.seconds(2);
        int[] due = {2, 12, 3, 2, 1};
        for (int what = 0; what < 5; what++) {
            Check.due("now(" + what + ")", x.now(what), due[what]);
        }
    }

    private static void places() {
        SecondHome x = new SecondHome();
        Check.due("place(0) of nobody", x.place(0), Check.BEYOND);
        x.let(0, 10);
        int[] paces = {4, 5, 10, 12, 12, 4};
        for (int pace : paces) {
            x.runner(0, pace, 99);
        }
        order(x, 0, 1, 2, 3, 4, 5);
        x.seconds(1);
        order(x, 3, 4, 2, 1, 0, 5);
        x.seconds(1);
        order(x, 3, 4, 2, 1, 0, 5);
        x.seconds(1);
        order(x, 3, 4, 2, 1, 0, 5);
        Check.due("place(-1)", x.place(-1), Check.BEYOND);
        Check.due("place(6)", x.place(6), Check.BEYOND);
        SecondHome y = new SecondHome();
        y.let(0, 10);
        y.runner(0, 5, 99);
        y.runner(0, 12, 99);
        y.set(0, 4, 5);
        y.line();
        y.seconds(1);
        order(y, 1, 0);
        y.line();
        y.set(1, 1, 4);
        y.seconds(3);
        order(y, 0, 1);
        Check.due("more yards, but later", y.of(1, 5) > y.of(0, 5) ? 1 : 0, 1);
    }

    private static void order(SecondHome x, int... runners) {
        for (int i = 0; i < runners.length; i++) {
            Check.due("place(" + i + ") at " + x.now(0), x.place(i), runners[i]);
            Check.due("of(" + runners[i] + ", 8)", x.of(runners[i], 8), i);
        }
    }

    private static void prize() {
        int[][] due = {{Check.NONE, Check.NONE, Check.NONE, Check.NONE}, {0, Check.NONE, Check.NONE, 0}, {0, 1, 0, 0},
            {0, 1, 1, 1}, {0, 1, 2, 1}, {0, 1, 3, 2}, {0, 1, 4, 2}, {0, 1, 5, 3}, {0, 1, 6, 3}, {0, 1, 7, 4}};
        SecondHome x = new SecondHome();
        for (int n = 0; n <= 9; n++) {
            for (int law = 0; law < 4; law++) {
                x.let(2, law);
                Check.due("prize of " + n + " by law " + law, x.prize(), due[n][law]);
            }
            x.runner(0, 1, 0);
        }
    }

    private static void score() {
        SecondHome x = new SecondHome();
        Check.due("nobody", x.score(), Check.STATE);
        x.let(0, 10);
        x.runner(0, 12, 99);
        x.runner(0, 11, 99);
        x.runner(0, 1, 99);
        x.seconds(1);
        Check.due("one isn't HOME", x.score(), Check.STATE);
        x.seconds(9);
        Check.due("three", x.score(), 13);
        Check.due("first", x.of(0, 6), 2);
        Check.due("second", x.of(1, 6), 11);
        Check.due("third", x.of(2, 6), 0);
        x.let(2, 0);
        Check.due("again", x.score(), 13);
        Check.due("first by law 0", x.of(0, 6), 14);
        Check.due("second, and 1 more", x.of(1, 6), 12);
        SecondHome one = new SecondHome();
        one.let(0, 10);
        one.runner(0, 10, 99);
        one.seconds(1);
        Check.due("one alone, nobody's prize", one.score(), 0);
        one.let(2, 3);
        Check.due("one alone, the middle one", one.score(), 10);
    }

    private static void leads() {
        SecondHome x = new SecondHome();
        Check.due("nobody", x.leads(), Check.NONE);
        x.let(0, 10);
        x.runner(0, 11, 99);
        Check.due("none has POINTS", x.leads(), 0);
        x.runner(0, 12, 99);
        x.runner(0, 10, 99);
        Check.due("of several the least", x.leads(), 0);
        x.let(2, 0);
        x.seconds(1);
        x.score();
        Check.due("most POINTS", x.leads(), 1);
    }
}
