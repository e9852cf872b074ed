/** Promises 22 to 30: with what one has the prize of a race, and who didn't want it; nothing changes by asking. */
public final class HowToRunTest {
    public static void main(String[] args) {
        pace();
        kind();
        start();
        favours();
        friend();
        deal();
        fair();
        odds();
        unwilling();
        findings();
        nothingChanges();
        Check.end();
    }

    /** Runners on a track by a law: kind, pace, breath each. */
    private static SecondHome track(int length, int law, int... told) {
        SecondHome x = new SecondHome();
        x.let(0, length);
        x.let(2, law);
        for (int i = 0; i < told.length; i += 3) {
            x.runner(told[i], told[i + 1], told[i + 2]);
        }
        return x;
    }

    private static void pace() {
        SecondHome second = track(20, 1, 0, 3, 10, 0, 6, 4);
        Check.due("second with the least pace", second.pace(0), 1);
        Check.due("so has the other one", second.pace(1), 1);
        SecondHome first = track(20, 0, 0, 3, 10, 0, 6, 4);
        Check.due("20 yards at 4 as the other one, by number", first.pace(0), 5);
        Check.due("ahead of 21 yards at 7", first.pace(1), 4);
        first.set(0, 4, 19);
        Check.due("nothing is fast enough", first.pace(1), Check.NONE);
        Check.due("one alone, the second", track(20, 1, 0, 3, 10).pace(0), Check.NONE);
        Check.due("12 at most", track(12, 0, 0, 11, 99, 0, 1, 99).pace(1), 12);
        Check.due("who isn't HOME has no prize", track(8001, 0, 0, 1, 0).pace(0), Check.NONE);
    }

    private static void kind() {
        SecondHome first = track(40, 0, 0, 4, 99, 5, 6, 99);
        Check.due("a RUNNER is first", first.kind(1), 0);
        Check.due("one that has it already", first.kind(0), 0);
        Check.due("a HOLDER is second, 40 yards at 10", track(40, 1, 0, 4, 99, 0, 6, 99).kind(1), 1);
        Check.due("all are first", track(40, 1, 0, 1, 99, 0, 12, 999).kind(1), Check.NONE);
    }

    private static void start() {
        SecondHome even = track(40, 0, 0, 4, 0, 0, 4, 0);
        Check.due("by number", even.start(0), 0);
        Check.due("5 yards are enough", even.start(1), 5);
        SecondHome far = track(300, 0, 0, 4, 0, 0, 12, 999);
        Check.due("200 at most", far.start(0), 200);
        Check.due("204 would do", track(301, 0, 0, 4, 0, 0, 12, 999).start(0), Check.NONE);
        Check.due("below LENGTH", track(10, 0, 0, 1, 0, 0, 10, 999).start(0), Check.NONE);
        SecondHome ten = track(11, 0, 0, 1, 0, 0, 10, 999);
        Check.due("10 of 11", ten.start(0), 10);
        ten.set(0, 4, 3);
        Check.due("its own START doesn't matter", ten.start(0), 10);
    }

    private static void favours() {
        SecondHome x = track(60, 0, 0, 4, 99, 0, 5, 99, 0, 6, 99);
        Check.due("last", x.favours(0), 0);
        Check.due("second, last but one, middle", x.favours(1), 14);
        Check.due("first", x.favours(2), 1);
        Check.due("one alone", track(60, 1, 0, 4, 0).favours(0), 9);
        Check.due("not all HOME", track(8001, 1, 0, 4, 0).favours(0), Check.NONE);
    }

    private static void friend() {
        SecondHome second = track(40, 1, 2, 12, 999, 0, 4, 99);
        Check.due("behind the other one", second.friend(0), 1);
        second.let(2, 0);
        Check.due("none ahead of all", second.friend(0), -1);
        Check.due("-1 is no finding", second.status(-1), 0);
        Check.due("one alone, the second", track(40, 1, 0, 4, 99).friend(0), Check.NONE);
        SecondHome three = track(40, 1, 2, 12, 999, 0, 4, 0, 0, 4, 0);
        three.set(0, 3, 2);
        Check.due("third whomever it keeps behind", three.friend(0), Check.NONE);
        three.let(2, 2);
        three.set(2, 1, 1);
        Check.due("keeps behind 1, ahead of 2", three.friend(0), 1);
    }

    private static void deal() {
        Check.due("two", track(60, 1, 0, 4, 99, 0, 5, 99).deal(), 1);
        Check.due("0 and 2, as 0 and 1 are even", track(60, 0, 0, 6, 99, 0, 6, 99, 0, 4, 99).deal(), 2);
        Check.due("0 and 1", track(60, 0, 0, 4, 99, 0, 6, 99, 0, 5, 99).deal(), 1);
        SecondHome last = track(60, 0, 0, 1, 0, 0, 1, 0, 0, 4, 99);
        last.set(0, 4, 59);
        Check.due("none", last.deal(), Check.NONE);
        SecondHome later = track(60, 1, 0, 5, 99, 0, 4, 99, 0, 6, 99);
        later.set(0, 4, 59);
        Check.due("1 and 2, whatever pace the first has", later.deal(), 12);
        Check.due("none if all are even", track(60, 1, 0, 4, 99, 0, 4, 99, 0, 4, 99).deal(), Check.NONE);
        Check.due("nobody has it now", track(60, 1, 0, 4, 99).deal(), Check.NONE);
        Check.due("nobody is there", new SecondHome().deal(), Check.NONE);
        SecondHome toLaterOnes = track(60, 3, 0, 4, 0, 0, 4, 0, 0, 4, 0, 0, 12, 999);
        Check.due("0 and 3: 3 0 1 2 becomes 0 1 2 3", toLaterOnes.deal(), 3);
    }

    private static void fair() {
        Check.due("nobody runs", new SecondHome().fair(), Check.NONE);
        Check.due("the fastest is first", track(40, 0, 0, 4, 99, 0, 9, 99).fair(), 0);
        Check.due("the fastest isn't second", track(40, 1, 0, 4, 99, 0, 9, 99).fair(), Check.NONE);
        Check.due("a HOLDER is second with LEAST PACE 1", track(40, 1, 0, 4, 99, 1, 6, 99).fair(), 1);
        SecondHome five = track(40, 1, 0, 1, 999, 1, 6, 999);
        five.set(0, 4, 12);
        Check.due("5 at most", five.fair(), 5);
        Check.due("of several the least RUNNER", track(40, 0, 0, 9, 99, 0, 9, 99).fair(), 0);
        Check.due("so the second doesn't go to it", track(40, 1, 0, 9, 99, 0, 9, 99).fair(), Check.NONE);
    }

    private static void odds() {
        SecondHome x = track(100, 0, 0, 4, 99, 1, 5, 99, 4, 6, 99);
        for (int n = 1; n <= 20; n++) {
            int all = 0;
            for (int r = 0; r < 3; r++) {
                int due = drawn(r, n, 77 - n);
                Check.due("odds(" + r + ", " + n + ")", x.odds(r, n, 77 - n), due);
                all += due;
            }
            Check.due("somebody has each of " + n, all, n);
        }
        Check.due("odds(0, 0, 1)", x.odds(0, 0, 1), Check.BEYOND);
        Check.due("odds(0, 21, 1)", x.odds(0, 21, 1), Check.BEYOND);
        Check.due("odds(3, 1, 1)", x.odds(3, 1, 1), Check.BEYOND);
        Check.due("odds(-1, 1, 1)", x.odds(-1, 1, 1), Check.BEYOND);
        Check.due("nobody's prize", track(100, 1, 0, 4, 99).odds(0, 20, 5), 0);
    }

    private static int drawn(int runner, int n, int z) {
        SecondHome y = track(100, 0, 0, 4, 99, 1, 5, 99, 4, 6, 99);
        int had = 0;
        int drawn = z;
        for (int i = 0; i < n; i++) {
            for (int r = 0; r < 3; r++) {
                drawn = drawn * 1103515245 + 12345;
                y.set(r, 1, 1 + (drawn >>> 8) % 12);
            }
            had += y.race() == runner ? 1 : 0;
        }
        return had;
    }

    private static void unwilling() {
        Check.due("a HOLDER", track(40, 1, 1, 6, 99, 0, 4, 99).unwilling(), 1);
        Check.due("without breath", track(40, 1, 0, 6, 0).unwilling(), 0);
        Check.due("without enough breath", track(40, 1, 0, 6, 3).unwilling(), 0);
        Check.due("a slow HOLDER", track(40, 1, 1, 3, 0).unwilling(), 1);
        Check.due("a RUNNER", track(40, 1, 0, 12, 999).unwilling(), 0);
        SecondHome idler = track(10, 1, 5, 6, 2);
        idler.let(1, 2);
        Check.due("an IDLER with just enough breath", idler.unwilling(), 1);
        idler.set(0, 2, 1);
        Check.due("one less", idler.unwilling(), 0);
        Check.due("not first", track(40, 1, 0, 4, 0, 5, 6, 99).unwilling(), 2);
        Check.due("only when the other one is HOME", track(40, 1, 0, 4, 0, 5, 3, 99).unwilling(), 2);
        Check.due("both idle side by side", track(10, 1, 5, 6, 99, 5, 6, 99).unwilling(), 0);
        Check.due("nobody", new SecondHome().unwilling(), 0);
        SecondHome x = track(40, 1, 1, 6, 99, 0, 4, 99);
        x.seconds(600);
        Check.due("of a RACE, not of now", x.unwilling(), 1);
        SecondHome far = track(9999, 1, 1, 3, 0);
        far.set(0, 4, 1500);
        Check.due("7500 yards only after 2000 SECONDS", far.unwilling(), 0);
        far.set(0, 4, 1502);
        Check.due("7499 yards as the last SECOND begins, less than 7499 and a quarter", far.unwilling(), 0);
        far.set(0, 4, 1503);
        Check.due("7500 yards as the last SECOND begins", far.unwilling(), 1);
    }

    private static void findings() {
        SecondHome x = track(40, 1, 0, 4, 99);
        for (int r : new int[] {-1, 1, Integer.MIN_VALUE, Integer.MAX_VALUE}) {
            Check.due("pace", x.pace(r), Check.BEYOND);
            Check.due("kind", x.kind(r), Check.BEYOND);
            Check.due("start", x.start(r), Check.BEYOND);
            Check.due("favours", x.favours(r), Check.BEYOND);
            Check.due("friend", x.friend(r), Check.BEYOND);
        }
        Check.due("all counted", x.status(0), 20);
    }

    private static void nothingChanges() {
        SecondHome x = track(60, 1, 1, 6, 40, 2, 9, 50, 5, 3, 10);
        x.set(1, 3, 0);
        x.seconds(3);
        String before = Check.picture(x);
        for (int r = 0; r < 3; r++) {
            x.pace(r);
            x.kind(r);
            x.start(r);
            x.favours(r);
            x.friend(r);
            x.odds(r, 5, r);
        }
        x.deal();
        x.fair();
        x.unwilling();
        Check.due("nothing changes", Check.picture(x).equals(before) ? 1 : 0, 1);
    }
}
