/** Promises 34 to 39: sheets of numbers, paces from them, a race seen. */
public final class SheetsTest {
    public static void main(String[] args) {
        sheet();
        write();
        copy();
        lays();
        film();
        read();
        Check.end();
    }

    private static void sheet() {
        SecondHome x = new SecondHome();
        Check.due("sheet(-1, 8, 1)", x.sheet(-1, 8, 1), Check.BEYOND);
        Check.due("sheet(4, 8, 1)", x.sheet(4, 8, 1), Check.BEYOND);
        for (int bits : new int[] {-1, 1, 7, 9, 32, 65}) {
            Check.due("bits " + bits, x.sheet(0, bits, 1), Check.BEYOND);
        }
        Check.due("BEYOND ahead of SIZE", x.sheet(4, 8, -1), Check.BEYOND);
        Check.due("other bits ahead of SIZE", x.sheet(0, 7, -1), Check.BEYOND);
        for (int bits : new int[] {0, 8, 16, 64}) {
            Check.due("below 0, bits " + bits, x.sheet(0, bits, -1), Check.SIZE);
            Check.due("far below 0", x.sheet(0, bits, Integer.MIN_VALUE), Check.SIZE);
            Check.due("41, bits " + bits, x.sheet(0, bits, 41), Check.BEYOND);
            Check.due("40, bits " + bits, x.sheet(0, bits, 40), bits == 0 ? 0 : 40);
            Check.due("0, bits " + bits, x.sheet(0, bits, 0), 0);
        }
        x.sheet(3, 8, 2);
        x.write(3, 1, 5);
        x.sheet(3, 8, 2);
        Check.due("all 0 anew", x.write(3, 1, 5), 0);
        x.sheet(3, 0, 2);
        Check.due("MISSING then", x.write(3, 1, 5), Check.MISSING);
    }

    private static void write() {
        SecondHome x = new SecondHome();
        Check.due("no such sheet", x.write(-1, 0, 0), Check.BEYOND);
        Check.due("no such sheet", x.write(4, 0, 0), Check.BEYOND);
        Check.due("MISSING ahead of BEYOND", x.write(0, -1, 0), Check.MISSING);
        long[][] cut = {{8, 127, 127}, {8, 128, -128}, {8, 255, -1}, {8, 256, 0}, {8, -129, 127},
            {16, 32767, 32767}, {16, 32768, -32768}, {16, 65536, 0}, {16, -1, -1},
            {64, Long.MAX_VALUE, Long.MAX_VALUE}, {64, Long.MIN_VALUE, Long.MIN_VALUE}, {64, 1L << 32, 1L << 32}};
        for (long[] c : cut) {
            x.sheet(1, (int) c[0], 40);
            Check.due("0 at first", x.write(1, 39, c[1]), 0);
            Check.due(c[1] + " of " + c[0] + " bits", x.write(1, 39, 0), c[2]);
        }
        Check.due("no such number", x.write(1, 40, 0), Check.BEYOND);
        Check.due("no such number", x.write(1, -1, 0), Check.BEYOND);
        x.sheet(1, 8, 0);
        Check.due("no number at all", x.write(1, 0, 0), Check.BEYOND);
        x.sheet(2, 64, 1);
        x.write(2, 0, Check.BEYOND);
        int before = x.status(-1);
        Check.due("a number like a finding is none", x.write(2, 0, 0), Check.BEYOND);
        Check.due("not counted", x.status(-1), before);
    }

    private static SecondHome rows() {
        SecondHome x = new SecondHome();
        x.sheet(0, 8, 6);
        x.sheet(1, 8, 4);
        x.sheet(2, 16, 6);
        for (int i = 0; i < 6; i++) {
            x.write(0, i, i + 1);
        }
        return x;
    }

    private static void row(SecondHome x, int s, long... due) {
        for (int i = 0; i < due.length; i++) {
            long was = x.write(s, i, 0);
            x.write(s, i, was);
            Check.due("number " + i, was, due[i]);
        }
    }

    private static void copy() {
        SecondHome x = rows();
        Check.due("to another one", x.copy(0, 2, 1, 1, 3), 3);
        row(x, 1, 0, 3, 4, 5);
        Check.due("forward in one", x.copy(0, 0, 0, 1, 5), 5);
        row(x, 0, 1, 1, 2, 3, 4, 5);
        Check.due("back in one", x.copy(0, 1, 0, 0, 5), 5);
        row(x, 0, 1, 2, 3, 4, 5, 5);
        Check.due("none", x.copy(0, 6, 1, 4, 0), 0);
        Check.due("all", x.copy(1, 0, 1, 0, 4), 4);
        int[][] beyond = {{0, 0, 1, 0, 5}, {0, 4, 1, 0, 3}, {0, 0, 1, 2, 3}, {0, -1, 1, 0, 1}, {0, 0, 1, -1, 1},
            {0, 0, 1, 0, -1}, {-1, 0, 1, 0, 1}, {4, 0, 1, 0, 1}, {0, 0, -1, 0, 1}, {0, 0, 4, 0, 1}, {3, 0, 4, 0, 1},
            {0, Integer.MAX_VALUE, 1, 0, 1}, {0, 1, 1, 0, Integer.MAX_VALUE}, {0, 7, 1, 0, 0},
            {0, Integer.MIN_VALUE, 1, Integer.MIN_VALUE, Integer.MIN_VALUE}};
        for (int[] b : beyond) {
            Check.due("beyond", x.copy(b[0], b[1], b[2], b[3], b[4]), Check.BEYOND);
        }
        Check.due("MISSING from", x.copy(3, 0, 1, 0, 1), Check.MISSING);
        Check.due("MISSING to, ahead of BEYOND", x.copy(1, -1, 3, 0, 1), Check.MISSING);
        Check.due("KIND, ahead of BEYOND", x.copy(0, -1, 2, 0, 1), Check.KIND);
        row(x, 1, 0, 3, 4, 5);
    }

    private static void lays() {
        SecondHome x = new SecondHome();
        Check.due("lays(-1)", x.lays(-1), Check.BEYOND);
        Check.due("lays(4)", x.lays(4), Check.BEYOND);
        Check.due("lays(0)", x.lays(0), Check.MISSING);
        x.sheet(0, 64, 6);
        long[] told = {1, 12, 0, 13, (1L << 32) + 5, 7};
        for (int i = 0; i < told.length; i++) {
            x.write(0, i, told[i]);
        }
        Check.due("for none", x.lays(0), 0);
        for (int r = 0; r < 5; r++) {
            x.runner(0, 6, 0);
        }
        Check.due("1 and 12", x.lays(0), 2);
        int[] paces = {1, 12, 6, 6, 6};
        for (int r = 0; r < 5; r++) {
            Check.due("PACE of " + r, x.of(r, 1), paces[r]);
        }
        x.runner(0, 6, 0);
        x.runner(0, 6, 0);
        Check.due("and 7", x.lays(0), 3);
        Check.due("PACE of 5", x.of(5, 1), 7);
        Check.due("PACE of 6", x.of(6, 1), 6);
    }

    private static void film() {
        SecondHome x = new SecondHome();
        Check.due("film(4, 0)", x.film(4, 0), Check.BEYOND);
        Check.due("MISSING ahead of BEYOND: runner", x.film(0, 0), Check.MISSING);
        x.sheet(0, 8, 5);
        Check.due("film(0, 0) of nobody", x.film(0, 0), Check.BEYOND);
        x.let(0, 12);
        x.runner(0, 5, 1);
        Check.due("film(0, -1)", x.film(0, -1), Check.BEYOND);
        Check.due("film(0, 1)", x.film(0, 1), Check.BEYOND);
        Check.due("film", x.film(0, 0), 5);
        row(x, 0, 0, 5, 9, 13, 13);
        x.seconds(1);
        x.film(0, 0);
        row(x, 0, 5, 9, 13, 13, 13);
        Check.due("nothing else changes", x.now(0), 1);
        SecondHome far = new SecondHome();
        far.runner(0, 12, 999);
        far.set(0, 4, 120);
        far.line();
        far.sheet(0, 8, 2);
        far.film(0, 0);
        row(far, 0, 120, -124);
        Check.due("132 isn't a number of 8 bits", far.read(0), Check.NONE);
    }

    private static void read() {
        SecondHome x = new SecondHome();
        Check.due("read(-1)", x.read(-1), Check.BEYOND);
        Check.due("read(4)", x.read(4), Check.BEYOND);
        Check.due("read(0)", x.read(0), Check.MISSING);
        x.sheet(0, 16, 0);
        Check.due("nobody is there", x.read(0), Check.NONE);
        x.let(0, 12);
        x.runner(0, 4, 0);
        x.runner(0, 3, 0);
        x.runner(0, 3, 0);
        Check.due("without numbers the least", x.read(0), 0);
        for (int r = 0; r < 3; r++) {
            x.sheet(0, 16, 6);
            x.film(0, r);
            Check.due("film of " + r, x.read(0), Math.min(r, 1));
        }
        x.write(0, 5, 13);
        Check.due("the last number is wrong", x.read(0), Check.NONE);
        x.sheet(0, 64, 1);
        x.write(0, 0, 1L << 32);
        Check.due("as long numbers", x.read(0), Check.NONE);
        Check.due("nothing changes", x.now(0), 0);
    }
}
