/** Promises 34 to 39 at the edges that their sentences, and those of the Terms, name. */
public final class SheetsEdgesTest {
    private static final int RUNNER = 0;

    public static void main(String[] args) throws Exception {
        Edge.run(SheetsEdgesTest.class, 34, 39);
    }

    private static SecondHome sheets(int... bitsAndSizes) {
        SecondHome x = new SecondHome();
        for (int s = 0; 2 * s < bitsAndSizes.length; s++) {
            x.sheet(s, bitsAndSizes[2 * s], bitsAndSizes[2 * s + 1]);
            for (int i = 0; i < bitsAndSizes[2 * s + 1]; i++) {
                x.write(s, i, 10 * s + i + 1);
            }
        }
        return x;
    }

    private static void writes(SecondHome x, int s, long... numbers) {
        for (int i = 0; i < numbers.length; i++) {
            x.write(s, i, numbers[i]);
        }
    }

    // ---- promise 34: sheet

    static void sheetsAre0To3AndMissingAtFirst() {
        Edge.terms(34, "SHEETS 0 to 3 are rows of at most 40 numbers of 8, 16 or 64 bits, or MISSING (at first).");
        for (int s = 0; s < 4; s++) {
            Edge.refuses(SecondHome::new, Check.MISSING, "write", s, 0, 1);
            Edge.refuses(SecondHome::new, Check.MISSING, "lays", s);
            Edge.refuses(SecondHome::new, Check.MISSING, "read", s);
            for (int bits : new int[] {8, 16, 64}) {
                SecondHome x = new SecondHome();
                Edge.answers(x, 40, "sheet", s, bits, 40);
                Edge.answers(x, 0, "write", s, 39, 7);
                Edge.answers(x, 7, "write", s, 39, 0);
                Edge.answers(x, Check.BEYOND, "write", s, 40, 0);
                Edge.answers(x, Check.MISSING, "write", (s + 1) % 4, 0, 0);
            }
        }
    }

    static void noSuchSheetAndOtherBits() {
        Edge.promise(34, "BEYOND: no such sheet, other bits.");
        for (int s : new int[] {Edge.LEAST, -1, 4, Edge.MOST}) {
            for (int bits : new int[] {0, 8, 7}) {
                for (int n : new int[] {-1, 0, 3, 41}) {
                    Edge.refuses(Edge::some, Check.BEYOND, "sheet", s, bits, n);
                }
            }
        }
        for (int bits : new int[] {Edge.LEAST, -64, -8, -1, 1, 7, 9, 15, 17, 32, 63, 65, 72, 128, 264, Edge.MOST}) {
            for (int n : new int[] {-1, 0, 3, 41}) {
                Edge.refuses(Edge::some, Check.BEYOND, "sheet", 0, bits, n);
            }
        }
    }

    static void belowZeroIsSize() {
        Edge.promise(34, "SIZE: n is below 0 (also with bits 0).");
        for (int bits : new int[] {0, 8, 16, 64}) {
            for (int n : new int[] {Edge.LEAST, -41, -1}) {
                Edge.refuses(Edge::some, Check.SIZE, "sheet", 0, bits, n);
                Edge.refuses(Edge::some, Check.SIZE, "sheet", 2, bits, n);
            }
            Edge.answers(Edge.some(), 0, "sheet", 0, bits, 0);
        }
    }

    static void above40IsBeyond() {
        Edge.promise(34, "BEYOND: n is above 40 (also with bits 0).");
        for (int bits : new int[] {0, 8, 16, 64}) {
            for (int n : new int[] {41, 256, Edge.MOST}) {
                Edge.refuses(Edge::some, Check.BEYOND, "sheet", 0, bits, n);
                Edge.refuses(Edge::some, Check.BEYOND, "sheet", 2, bits, n);
            }
            Edge.answers(Edge.some(), bits == 0 ? 0 : 40, "sheet", 0, bits, 40);
        }
    }

    static void aSheetIsAll0AndMayBeMissingAgain() {
        Edge.promise(34, "A sheet has n numbers, all 0, of 8, 16 or 64 bits; bits 0: it is MISSING: n (0 if it is MISSING).");
        SecondHome x = sheets(8, 3, 64, 40);
        Edge.answers(x, 3, "sheet", 0, 8, 3);
        Edge.holds(x, 0, 0, 0, 0);
        Edge.answers(x, 2, "sheet", 1, 16, 2);
        Edge.answers(x, 40, "sheet", 1, 64, 40);
        Edge.holds(x, 1, new long[40]);
        Edge.answers(x, 0, "sheet", 1, 0, 40);
        Edge.answers(x, Check.MISSING, "write", 1, 0, 0);
        Edge.answers(x, 0, "sheet", 1, 0, 0);
        Edge.answers(x, 1, "sheet", 1, 8, 1);
        Edge.holds(x, 1, 0);
        Edge.answers(x, 0, "sheet", 1, 8, 0);
        Edge.answers(x, Check.BEYOND, "write", 1, 0, 0);
    }

    // ---- promise 35: write

    static void writeAsksInOrder() {
        Edge.promise(35, "BEYOND: no such sheet. MISSING. BEYOND: no such number.");
        for (int s : new int[] {Edge.LEAST, -1, 4, Edge.MOST}) {
            Edge.refuses(Edge::some, Check.BEYOND, "write", s, 0, 1);
        }
        for (int i : new int[] {Edge.LEAST, -1, 0, 3, 40, Edge.MOST}) {
            Edge.refuses(Edge::some, Check.MISSING, "write", 2, i, 1);
        }
        for (int i : new int[] {Edge.LEAST, -1, 3, 4, 39, 40, Edge.MOST}) {
            for (int s : new int[] {0, 1, 3}) {
                Edge.refuses(Edge::some, Check.BEYOND, "write", s, i, 1);
            }
        }
        Edge.refuses(() -> sheets(8, 0), Check.BEYOND, "write", 0, 0, 1);
        Edge.refuses(() -> sheets(64, 40), Check.BEYOND, "write", 0, 40, 1);
        Edge.answers(sheets(64, 40), 1, "write", 0, 0, 5);
        Edge.answers(sheets(64, 40), 40, "write", 0, 39, 5);
    }

    static void writeKeepsTheLowestBits() {
        Edge.promise(35, "Number i of a sheet becomes v (its lowest bits): what it was.");
        long[][] cut = {{8, 0, 0}, {8, 127, 127}, {8, 256, 0}, {8, 257, 1}, {8, 383, 127}, {8, Long.MIN_VALUE, 0},
            {8, (1L << 32) + 5, 5}, {16, 256, 256}, {16, 32767, 32767}, {16, 65536, 0}, {16, 65537, 1},
            {16, Long.MIN_VALUE, 0}, {64, 65536, 65536}, {64, 1L << 32, 1L << 32},
            {64, Long.MAX_VALUE, Long.MAX_VALUE}, {64, Long.MIN_VALUE, Long.MIN_VALUE}, {64, -1, -1}};
        for (long[] c : cut) {
            SecondHome x = sheets((int) c[0], 3);
            Edge.answers(x, 2, "write", 0, 1, c[1]);
            Edge.holds(x, 0, 1, c[2], 3);
        }
    }

    /** That they have a sign is a reading: the document doesn't tell. */
    static void numbersOf8And16BitsHaveASign() {
        Edge.promise(35, "Number i of a sheet becomes v (its lowest bits)");
        long[][] cut = {{8, 128, -128}, {8, 255, -1}, {8, -1, -1}, {8, -128, -128}, {8, -129, 127}, {8, -256, 0},
            {16, 32768, -32768}, {16, 65535, -1}, {16, -1, -1}, {16, -32768, -32768}, {16, -32769, 32767}};
        for (long[] c : cut) {
            SecondHome x = sheets((int) c[0], 3);
            x.write(0, 1, c[1]);
            Edge.holds(x, 0, 1, c[2], 3);
        }
    }

    static void aNumberLikeAFindingIsNone() {
        Edge.terms(35, "-1000000007 SIZE (in longs, too).");
        SecondHome x = sheets(64, 1);
        x.write(0, 0, Check.BEYOND);
        Edge.answers(x, Check.BEYOND, "write", 0, 0, 0);
        Edge.answers(x, 0, "status", -1);
        Edge.answers(x, -1000000001L, "write", 4, 0, 0);
        Edge.answers(x, -1000000006L, "write", 1, 0, 0);
    }

    // ---- promise 36: copy

    static void copyAsksForSheetsFirst() {
        Edge.promise(36, "BEYOND: no such sheet (either). MISSING: one is. KIND: they are not of as many bits.");
        for (int s : new int[] {Edge.LEAST, -1, 4, Edge.MOST}) {
            Edge.refuses(Edge::some, Check.BEYOND, "copy", s, 0, 0, 0, 1);
            Edge.refuses(Edge::some, Check.BEYOND, "copy", 0, 0, s, 0, 1);
            Edge.refuses(Edge::some, Check.BEYOND, "copy", s, 0, s, 0, 0);
            Edge.refuses(Edge::some, Check.BEYOND, "copy", 2, 0, s, 0, 1);
            Edge.refuses(Edge::some, Check.BEYOND, "copy", s, 0, 2, 0, 1);
        }
        for (int n : new int[] {-1, 0, 1, 41}) {
            Edge.refuses(Edge::some, Check.MISSING, "copy", 2, 0, 0, 0, n);
            Edge.refuses(Edge::some, Check.MISSING, "copy", 0, 0, 2, 0, n);
            Edge.refuses(Edge::some, Check.MISSING, "copy", 2, 0, 2, 0, n);
            Edge.refuses(Edge::some, Check.KIND, "copy", 0, 0, 1, 0, n);
            Edge.refuses(Edge::some, Check.KIND, "copy", 3, 0, 1, 0, n);
            Edge.refuses(Edge::some, Check.KIND, "copy", 0, -1, 3, 0, n);
        }
    }

    static void copyAsksForRoom() {
        Edge.promise(36, "BEYOND: one has not so many, or from, to or n is below 0.");
        int[][] beyond = {{0, 0, 5}, {1, 0, 4}, {4, 0, 1}, {5, 0, 0}, {0, 0, 4}, {0, 1, 3}, {0, 3, 1}, {0, 4, 0},
            {-1, 0, 1}, {-1, 0, 0}, {0, -1, 1}, {0, -1, 0}, {0, 0, -1}, {1, 1, -1}, {4, 3, -1},
            {Edge.MOST, 0, 1}, {0, Edge.MOST, 1}, {0, 0, Edge.MOST}, {1, 1, Edge.MOST}, {Edge.MOST, Edge.MOST, Edge.MOST},
            {Edge.LEAST, 0, 1}, {0, Edge.LEAST, 1}, {0, 0, Edge.LEAST}, {Edge.LEAST, Edge.LEAST, Edge.LEAST},
            {Edge.MOST, 0, Edge.LEAST}, {0, Edge.MOST, Edge.LEAST}};
        for (int[] b : beyond) {
            Edge.refuses(() -> sheets(8, 4, 8, 3), Check.BEYOND, "copy", 0, b[0], 1, b[1], b[2]);
        }
        int[][] fine = {{0, 0, 3}, {1, 0, 3}, {3, 2, 1}, {4, 3, 0}, {0, 0, 0}};
        for (int[] f : fine) {
            Edge.answers(sheets(8, 4, 8, 3), f[2], "copy", 0, f[0], 1, f[1], f[2]);
        }
        Edge.answers(sheets(64, 40, 64, 40), 40, "copy", 0, 0, 1, 0, 40);
        Edge.answers(sheets(64, 40, 64, 40), Check.BEYOND, "copy", 0, 0, 1, 0, 41);
        Edge.answers(sheets(8, 0, 8, 0), 0, "copy", 0, 0, 1, 0, 0);
        Edge.answers(sheets(8, 0, 8, 0), Check.BEYOND, "copy", 0, 0, 1, 0, 1);
    }

    static void copyTakesThemAsTheyAllWere() {
        Edge.promise(36, "n numbers of a sheet from one on come to another one from one on (as they all were): n.");
        SecondHome forward = sheets(8, 5);
        Edge.answers(forward, 4, "copy", 0, 0, 0, 1, 4);
        Edge.holds(forward, 0, 1, 1, 2, 3, 4);
        SecondHome back = sheets(8, 5);
        Edge.answers(back, 4, "copy", 0, 1, 0, 0, 4);
        Edge.holds(back, 0, 2, 3, 4, 5, 5);
        SecondHome same = sheets(8, 5);
        Edge.answers(same, 5, "copy", 0, 0, 0, 0, 5);
        Edge.holds(same, 0, 1, 2, 3, 4, 5);
        SecondHome two = sheets(8, 5, 8, 4);
        Edge.answers(two, 2, "copy", 0, 3, 1, 2, 2);
        Edge.holds(two, 0, 1, 2, 3, 4, 5);
        Edge.holds(two, 1, 11, 12, 4, 5);
        Edge.keeps(() -> sheets(8, 5, 8, 4), 0, "copy", 0, 5, 1, 4, 0);
    }

    // ---- promise 37: lays

    private static SecondHome sheetOn(int count, int bits, long... numbers) {
        SecondHome x = Edge.many(count);
        x.sheet(0, bits, numbers.length);
        writes(x, 0, numbers);
        return x;
    }

    private static void paces(SecondHome x, int... paces) {
        for (int r = 0; r < paces.length; r++) {
            Edge.answers(x, paces[r], "of", r, 1);
        }
    }

    static void laysAre1To12() {
        Edge.promise(37, "Numbers of a sheet are PACES of RUNNERS 0, 1, .. (those that aren't 1 to 12,"
            + " or stand for none, are left out): how many came.");
        SecondHome wide = sheetOn(9, 64, 1, 12, 0, 13, -1, (1L << 32) + 5, Long.MIN_VALUE + 6, Long.MAX_VALUE, 7);
        Edge.answers(wide, 3, "lays", 0);
        paces(wide, 1, 12, 4, 4, 4, 4, 4, 4, 7);
        SecondHome few = sheetOn(3, 8, 5);
        Edge.answers(few, 1, "lays", 0);
        paces(few, 5, 4, 4);
        SecondHome none = sheetOn(3, 8);
        Edge.answers(none, 0, "lays", 0);
        paces(none, 4, 4, 4);
        Edge.keeps(() -> sheetOn(0, 8, 1, 2, 3), 0, "lays", 0);
        Edge.keeps(() -> sheetOn(2, 16, 0, 13), 0, "lays", 0);
        SecondHome more = sheetOn(2, 16, 3, 4, 5);
        Edge.answers(more, 2, "lays", 0);
        paces(more, 3, 4);
        more.runner(RUNNER, 9, 0);
        Edge.answers(more, 9, "of", 2, 1);
        SecondHome full = Edge.many(9);
        full.sheet(0, 8, 40);
        writes(full, 0, 1, 2, 3, 4, 5, 6, 7, 8, 9, 10);
        Edge.answers(full, 9, "lays", 0);
        paces(full, 1, 2, 3, 4, 5, 6, 7, 8, 9);
    }

    static void laysOfNoSuchSheetAndOfAMissingOne() {
        Edge.promise(37, "BEYOND: no such sheet. MISSING.");
        for (int s : new int[] {Edge.LEAST, -1, 4, Edge.MOST}) {
            Edge.refuses(Edge::some, Check.BEYOND, "lays", s);
        }
        Edge.refuses(Edge::some, Check.MISSING, "lays", 2);
        Edge.refuses(SecondHome::new, Check.MISSING, "lays", 3);
    }

    // ---- promise 38: film

    static void filmHasAsManyAsTheSheet() {
        Edge.promise(38, "A race seen: YARDS of a RUNNER ON 0, 1, .. SECONDS come to a sheet,"
            + " as many as it has numbers: how many.");
        SecondHome x = Edge.lined(12, 1, 1, Edge.one(RUNNER, 5, 1, -1, 2), Edge.one(RUNNER, 1, 0, -1, 0));
        x.sheet(0, 8, 5);
        Edge.answers(x, 5, "film", 0, 0);
        Edge.holds(x, 0, 2, 7, 11, 15, 15);
        x.sheet(0, 16, 1);
        Edge.answers(x, 1, "film", 0, 1);
        Edge.holds(x, 0, 0);
        x.sheet(0, 64, 0);
        Edge.answers(x, 0, "film", 0, 0);
        x.sheet(3, 64, 40);
        Edge.answers(x, 40, "film", 3, 1);
        Edge.answers(x, 12, "write", 3, 39, 0);
        Edge.answers(x, 11, "write", 3, 11, 0);
        Edge.answers(x, 0, "now", 0);
        Edge.answers(x, 1, "of", 0, 2);
        x.seconds(600);
        x.sheet(0, 8, 2);
        Edge.answers(x, 2, "film", 0, 0);
        Edge.holds(x, 0, 15, 15);
    }

    static void filmKeepsTheLowestBits() {
        Edge.promise(38, "YARDS of a RUNNER ON 0, 1, .. SECONDS come to a sheet");
        SecondHome x = Edge.lined(9999, 1, 1, Edge.one(RUNNER, 1, 0, -1, 255));
        x.sheet(0, 8, 3);
        x.sheet(1, 16, 3);
        x.film(0, 0);
        x.film(1, 0);
        Edge.holds(x, 0, -1, 0, 1);
        Edge.holds(x, 1, 255, 256, 257);
    }

    static void filmAsksInOrder() {
        Edge.promise(38, "BEYOND: no such sheet. MISSING. BEYOND: runner.");
        for (int wrong : new int[] {Edge.LEAST, -1, 4, 9, Edge.MOST}) {
            Edge.refuses(Edge::some, Check.BEYOND, "film", wrong, 0);
            Edge.refuses(Edge::some, Check.BEYOND, "film", 0, wrong);
            Edge.refuses(Edge::some, Check.MISSING, "film", 2, wrong);
        }
        Edge.refuses(Edge::some, Check.BEYOND, "film", 0, 3);
        Edge.refuses(Edge::some, Check.MISSING, "film", 2, 0);
        Edge.refuses(() -> sheets(8, 2), Check.BEYOND, "film", 0, 0);
        Edge.refuses(SecondHome::new, Check.MISSING, "film", 0, 0);
        Edge.refuses(() -> sheetOn(1, 8), Check.BEYOND, "film", 0, 1);
    }

    // ---- promise 39: read

    static void readIsTheLeastWhoseYardsTheyAre() {
        Edge.promise(39, "THE READER: the least RUNNER whose YARDS ON 0, 1, .. SECONDS the numbers of a sheet are.");
        SecondHome x = Edge.lined(30, 1, 1, Edge.one(RUNNER, 1, 0, -1, 0), Edge.one(RUNNER, 3, 0, -1, 0),
            Edge.one(RUNNER, 3, 0, -1, 0));
        x.sheet(0, 8, 0);
        Edge.answers(x, 0, "read", 0);
        x.sheet(0, 8, 1);
        Edge.answers(x, 0, "read", 0);
        x.sheet(0, 8, 40);
        int[] due = {0, 1, 1};
        for (int r = 0; r < 3; r++) {
            x.film(0, r);
            Edge.answers(x, due[r], "read", 0);
        }
        x.write(0, 39, 31);
        Edge.answers(x, Check.NONE, "read", 0);
        x.write(0, 39, 30);
        Edge.answers(x, 1, "read", 0);
        x.write(0, 0, 1);
        Edge.answers(x, Check.NONE, "read", 0);
        SecondHome nine = Edge.many(9);
        nine.set(8, 4, 1);
        nine.line();
        nine.sheet(0, 16, 2);
        nine.film(0, 8);
        Edge.answers(nine, 8, "read", 0);
    }

    static void readOfNobody() {
        Edge.promise(39, "BEYOND: no such sheet. MISSING. NONE: nobody's.");
        for (int s : new int[] {Edge.LEAST, -1, 4, Edge.MOST}) {
            Edge.refuses(Edge::some, Check.BEYOND, "read", s);
        }
        Edge.refuses(Edge::some, Check.MISSING, "read", 2);
        for (int s : new int[] {0, 1, 3}) {
            Edge.refuses(Edge::some, Check.NONE, "read", s);
        }
        Edge.refuses(() -> sheets(8, 0), Check.NONE, "read", 0);
        Edge.refuses(() -> sheets(8, 2), Check.NONE, "read", 0);
        Edge.refuses(() -> sheetOn(1, 64, 1L << 32), Check.NONE, "read", 0);
        Edge.keeps(() -> sheetOn(9, 64, 0, 4, 8), 0, "read", 0);
    }
}
