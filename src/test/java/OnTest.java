/** Promises 16 to 21: what comes if it goes on, and a race; nothing changes by asking. */
public final class OnTest {
    public static void main(String[] args) {
        on();
        home();
        prizeBy();
        leaders();
        passes();
        race();
        Check.end();
    }

    private static SecondHome two() {
        SecondHome x = new SecondHome();
        x.let(0, 20);
        x.runner(0, 3, 10);
        x.runner(0, 6, 4);
        return x;
    }

    private static void on() {
        SecondHome x = two();
        String before = Check.picture(x);
        int[] yards = {0, 6, 12, 16, 20, 20};
        for (int n = 0; n < yards.length; n++) {
            Check.due("on(1, " + n + ")", x.on(1, n), yards[n]);
        }
        Check.due("on(0, 2000)", x.on(0, 2000), 21);
        Check.due("on(0, 2001)", x.on(0, 2001), Check.BEYOND);
        Check.due("on(0, -1)", x.on(0, -1), Check.BEYOND);
        Check.due("on(2, 0)", x.on(2, 0), Check.BEYOND);
        Check.due("on(-1, 0)", x.on(-1, 0), Check.BEYOND);
        x.home(0);
        x.prizeBy(0);
        x.leaders();
        x.passes(0, 1);
        x.race();
        Check.due("nothing changes", Check.picture(x).equals(before) ? 1 : 0, 1);
    }

    private static void home() {
        SecondHome x = two();
        Check.due("home(0)", x.home(0), 7);
        Check.due("home(1)", x.home(1), 4);
        x.seconds(5);
        Check.due("home(0) later", x.home(0), 7);
        Check.due("home(1) of one HOME", x.home(1), 4);
        Check.due("home(2)", x.home(2), Check.BEYOND);
        Check.due("home(-1)", x.home(-1), Check.BEYOND);
        SecondHome far = new SecondHome();
        far.let(0, 8001);
        far.runner(0, 4, 0);
        Check.due("8001 yards are too far", far.home(0), Check.NONE);
        far.seconds(1);
        Check.due("2000 from now on do", far.home(0), 2001);
        SecondHome just = new SecondHome();
        just.let(0, 8000);
        just.runner(0, 4, 0);
        Check.due("8000 yards", just.home(0), 2000);
        SecondHome holder = new SecondHome();
        holder.let(0, 15);
        holder.runner(1, 11, 7);
        Check.due("alone at 11 of 15: out of breath, not holding back", holder.home(0), 2);
        SecondHome slow = new SecondHome();
        slow.let(0, 16);
        slow.runner(1, 12, 8);
        Check.due("alone at 12 of 16: holding back", slow.home(0), 5);
    }

    private static void prizeBy() {
        SecondHome x = two();
        int[] due = {1, 0, 1, 1};
        for (int law = 0; law < 4; law++) {
            Check.due("prizeBy(" + law + ")", x.prizeBy(law), due[law]);
        }
        Check.due("prizeBy(-1)", x.prizeBy(-1), Check.BEYOND);
        Check.due("prizeBy(4)", x.prizeBy(4), Check.BEYOND);
        Check.due("of nobody", new SecondHome().prizeBy(0), Check.NONE);
        SecondHome one = new SecondHome();
        one.runner(0, 4, 0);
        Check.due("one alone, the second", one.prizeBy(1), Check.NONE);
        Check.due("one alone, the last but one", one.prizeBy(2), Check.NONE);
        Check.due("one alone, the first", one.prizeBy(0), 0);
        SecondHome far = new SecondHome();
        far.let(0, 8001);
        far.runner(0, 4, 0);
        far.runner(0, 12, 999);
        Check.due("not all are HOME", far.prizeBy(0), Check.NONE);
    }

    private static void leaders() {
        SecondHome x = two();
        Check.due("1 at 6, 12, 16; 0 when that one is HOME", x.leaders(), 2);
        x.seconds(600);
        Check.due("all are HOME", x.leaders(), 0);
        Check.due("of nobody", new SecondHome().leaders(), 0);
        SecondHome even = new SecondHome();
        even.runner(0, 4, 0);
        even.runner(0, 4, 0);
        Check.due("never alone", even.leaders(), 0);
        SecondHome back = new SecondHome();
        back.let(0, 33);
        back.runner(0, 5, 0);
        back.runner(0, 4, 0);
        back.set(0, 4, 1);
        back.line();
        Check.due("one and the same, then the other alone", back.leaders(), 2);
    }

    private static void passes() {
        SecondHome x = two();
        x.set(0, 4, 7);
        x.line();
        Check.due("more already", x.passes(0, 1), 0);
        Check.due("7 10 13 16 19 against 0 6 12 16 20", x.passes(1, 0), 4);
        x.seconds(1);
        Check.due("from now on", x.passes(1, 0), 3);
        Check.due("one and the same", x.passes(0, 0), Check.BEYOND);
        Check.due("passes(0, 2)", x.passes(0, 2), Check.BEYOND);
        Check.due("passes(2, 0)", x.passes(2, 0), Check.BEYOND);
        Check.due("passes(-1, 0)", x.passes(-1, 0), Check.BEYOND);
        Check.due("passes(0, -1)", x.passes(0, -1), Check.BEYOND);
        SecondHome even = new SecondHome();
        even.runner(0, 4, 0);
        even.runner(0, 4, 0);
        Check.due("never", even.passes(0, 1), Check.NONE);
        last(8000, 2000);
        last(8001, Check.NONE);
        last(8002, Check.NONE);
    }

    /** One keeps at 8000 yards to be passed, as it is a HOLDER at three quarters with LEAST PACE 0. */
    private static void last(int start, int due) {
        SecondHome x = new SecondHome();
        x.let(0, 9999);
        x.let(1, 0);
        x.runner(1, 4, 0);
        x.runner(0, 4, 0);
        x.set(0, 4, start);
        x.set(1, 4, 1);
        x.line();
        Check.due("passed on the last second from " + start, x.passes(1, 0), due);
        Check.due("leaders from " + start, x.leaders(), due == Check.NONE ? 1 : 2);
    }

    private static void race() {
        SecondHome x = two();
        x.seconds(5);
        Check.due("from the START, by BREATH as it is", x.race(), 0);
        x.let(2, 0);
        Check.due("by law 0", x.race(), 1);
        x.set(0, 4, 19);
        Check.due("from another START", x.race(), 0);
        Check.due("of nobody", new SecondHome().race(), Check.NONE);
        SecondHome one = new SecondHome();
        one.runner(0, 4, 0);
        Check.due("one alone, the second", one.race(), Check.NONE);
        SecondHome far = new SecondHome();
        far.let(0, 8001);
        far.let(2, 0);
        far.runner(0, 4, 0);
        far.seconds(100);
        Check.due("not all are HOME by 2000", far.race(), Check.NONE);
        far.set(0, 4, 1);
        Check.due("all are", far.race(), 0);
    }
}
