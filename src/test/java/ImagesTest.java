/** Promises 40 to 44: images, counts, status; and that a finding changes nothing. */
public final class ImagesTest {
    public static void main(String[] args) {
        imageAndUndo();
        tear();
        count();
        status();
        findingsChangeNothing();
        Check.end();
    }

    private static SecondHome some() {
        SecondHome x = new SecondHome();
        x.let(0, 30);
        x.let(1, 2);
        x.let(2, 3);
        x.runner(0, 9, 90);
        x.runner(2, 8, 80);
        x.set(1, 3, 0);
        x.set(1, 4, 6);
        x.line();
        x.seconds(2);
        return x;
    }

    private static void imageAndUndo() {
        SecondHome x = some();
        String before = Check.picture(x);
        Check.due("image", x.image(), 1);
        x.seconds(600);
        x.score();
        x.runner(5, 5, 5);
        x.let(1, 0);
        x.let(2, 0);
        x.set(0, 1, 1);
        x.set(0, 3, 2);
        x.turn(1, 4);
        x.set(1, 4, 0);
        x.sheet(0, 8, 1);
        x.write(0, 0, 7);
        Check.due("undo", x.undo(), 2);
        Check.due("all as it was", Check.picture(x).equals(before) ? 1 : 0, 1);
        Check.due("sheets aren't kept", x.write(0, 0, 0), 7);
        x.feed(0, 3);
        x.set(0, 1, 1);
        Check.due("undo again", x.undo(), 2);
        Check.due("PACE", x.of(0, 1), 9);
        Check.due("THE TAPE isn't kept", x.count(1), 3);
        x.set(0, 1, 2);
        x.image();
        x.set(0, 1, 3);
        x.undo();
        Check.due("the latest", x.of(0, 1), 2);
        SecondHome empty = new SecondHome();
        empty.let(0, 50);
        empty.image();
        empty.runner(0, 1, 1);
        Check.due("no RUNNERS", empty.undo(), 0);
        Check.due("LENGTH may change again", empty.let(0, 60), 50);
        empty.undo();
        Check.due("LENGTH is kept", empty.now(1), 50);
    }

    private static void tear() {
        SecondHome x = some();
        Check.due("nothing to undo", x.undo(), Check.NONE);
        Check.due("nothing to tear", x.tear(), 0);
        x.image();
        x.image();
        Check.due("tear", x.tear(), 1);
        Check.due("torn", x.tear(), 0);
        Check.due("nothing to undo then", x.undo(), Check.NONE);
    }

    private static void count() {
        SecondHome x = some();
        x.feed(0, 4);
        int[] due = {2, 4, 18 + 10, 80 + 82, 0};
        for (int what = 0; what < 5; what++) {
            Check.due("count(" + what + ")", x.count(what), due[what]);
        }
        x.seconds(600);
        x.score();
        Check.due("POINTS of all", x.count(4), 11);
        Check.due("count(-1)", x.count(-1), Check.BEYOND);
        Check.due("count(5)", x.count(5), Check.BEYOND);
    }

    private static void status() {
        SecondHome x = new SecondHome();
        x.image();
        x.of(0, 0);
        x.undo();
        x.tear();
        x.undo();
        x.score();
        x.write(0, 0, 0);
        x.write(0, 0, 0);
        x.sheet(0, 8, -1);
        for (int r = 0; r < 12; r++) {
            x.runner(0, 1, 0);
        }
        x.as(0, 1);
        int[] due = {1, 3, 1, 1, 1, 2, 1};
        for (int which = 0; which < 7; which++) {
            Check.due("status(" + which + ")", x.status(which), due[which]);
        }
        Check.due("all", x.status(-1), 10);
        Check.due("status(7)", x.status(7), Check.BEYOND);
        Check.due("status(-2)", x.status(-2), Check.BEYOND);
        Check.due("counted from then on", x.status(0), 3);
        Check.due("all then", x.status(-1), 12);
    }

    private static void findingsChangeNothing() {
        SecondHome x = some();
        x.image();
        String before = Check.picture(x);
        int[][] wrong = {{0, 9}, {0, 50}, {1, 6}, {2, 4}, {3, 1}};
        for (int[] w : wrong) {
            x.let(w[0], w[1]);
        }
        x.runner(6, 1, 1);
        for (int what = 0; what < 7; what++) {
            x.set(0, what, -2);
            x.set(2, what, 1);
        }
        x.turn(0, 6);
        x.turn(2, 0);
        x.seconds(0);
        x.seconds(601);
        x.score();
        x.feed(1, 5);
        x.lays(0);
        x.film(0, 0);
        x.read(9);
        x.copy(0, 0, 1, 0, 1);
        Check.due("nothing changes", Check.picture(x).equals(before) ? 1 : 0, 1);
        Check.due("how many findings", x.status(-1), 5 + 1 + 14 + 2 + 2 + 1 + 1 + 3 + 1);
    }
}
