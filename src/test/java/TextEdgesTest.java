import java.util.function.Supplier;

/** Promises 31 to 33 at the edges that their sentences, and those of the Terms, name. */
public final class TextEdgesTest {
    public static void main(String[] args) throws Exception {
        Edge.run(TextEdgesTest.class, 31, 33);
    }

    /** A tape of so many bytes, none of which begins a token. */
    private static SecondHome fed(int count) {
        SecondHome x = new SecondHome();
        for (int i = 0; i < count; i++) {
            x.feed('!', 1);
        }
        return x;
    }

    // ---- promise 31: feed

    static void feedTakes1To4() {
        Edge.promise(31, "the highest of these first (n 1 to 4): how many it has. BEYOND: n.");
        for (int n = 1; n <= 4; n++) {
            SecondHome x = new SecondHome();
            Edge.answers(x, n, "feed", 0, n);
            Edge.answers(x, n, "count", 1);
            Edge.answers(x, 2 * n, "feed", 0, n);
        }
        for (int n : new int[] {Edge.LEAST, -1, 0, 5, Edge.MOST}) {
            Edge.refuses(SecondHome::new, Check.BEYOND, "feed", 'x', n);
            Edge.refuses(Edge::some, Check.BEYOND, "feed", 'x', n);
            Edge.refuses(() -> fed(120), Check.BEYOND, "feed", 'x', n);
        }
    }

    static void theTapeHasAtMost120() {
        Edge.terms(31, "THE TAPE (bytes, at most 120)");
        for (int n = 1; n <= 4; n++) {
            Edge.answers(fed(120 - n), 120, "feed", 0, n);
            Edge.refuses(() -> fed(120), Check.FULL, "feed", ' ', n);
            int size = 121 - n;
            Edge.refuses(() -> fed(size), Check.FULL, "feed", ' ', n);
        }
        SecondHome x = fed(120);
        x.feed(0, 1);
        x.wipe();
        Edge.answers(x, 4, "feed", 0, 4);
    }

    static void feedIsFull() {
        Edge.promise(31, "FULL.");
        Edge.refuses(() -> fed(119), Check.FULL, "feed", 0, 2);
        SecondHome x = fed(119);
        Edge.answers(x, Check.FULL, "feed", 0, 2);
        Edge.answers(x, 120, "feed", 0, 1);
        Edge.answers(x, Check.FULL, "feed", 0, 1);
        Edge.answers(x, 120, "count", 1);
    }

    static void feedTakesTheLowestBytesTheHighestFirst() {
        Edge.promise(31, "THE TAPE gets the n lowest bytes of a number behind it, the highest of these first");
        int[] told = {'3', ' ' << 8 | '3', '!' << 24 | ' ' << 16 | ' ' << 8 | '3', -256 | '3', 0x80000000 | '3'};
        int[] sizes = {1, 2, 3, 1, 1};
        for (int i = 0; i < told.length; i++) {
            SecondHome x = new SecondHome();
            x.feed('l' << 16 | 'a' << 8 | 'w', 3);
            Edge.answers(x, 3 + sizes[i], "feed", told[i], sizes[i]);
            Edge.answers(x, 1, "text");
            Edge.answers(x, 3, "now", 3);
        }
        SecondHome x = new SecondHome();
        x.feed('l' << 24 | 'a' << 16 | 'w' << 8 | '2', 4);
        Edge.answers(x, 1, "text");
        Edge.answers(x, 2, "now", 3);
        x.feed('!', 4);
        Edge.answers(x, -1, "text");
        x.feed(-1, 4);
        Edge.answers(x, -1, "text");
    }

    // ---- promise 32: wipe

    static void wipeTellsHowManyThereWere() {
        Edge.promise(32, "THE TAPE is empty: how many it had.");
        for (int size : new int[] {0, 1, 119, 120}) {
            SecondHome x = fed(size);
            Edge.answers(x, size, "wipe");
            Edge.answers(x, 0, "count", 1);
            Edge.answers(x, 0, "wipe");
            Edge.answers(x, -1, "text");
        }
        Edge.keeps(SecondHome::new, 0, "wipe");
    }

    // ---- promise 33: text

    /** On a new object: how many items. */
    private static void reads(int items, String text) {
        reads(SecondHome::new, items, text);
    }

    private static void reads(Supplier<SecondHome> made, int items, String text) {
        SecondHome x = made.get();
        int findings = x.status(-1);
        Edge.due("text '" + text + "'", Check.text(x, text), items);
        Edge.due("text '" + text + "', then count(1)", x.count(1), 0);
        Edge.due("text '" + text + "', then status(-1)", x.status(-1), findings);
    }

    /** A fault at a place: all is as if the tape had been wiped. */
    private static void faults(int place, String text) {
        faults(SecondHome::new, place, text);
        faults(TextEdgesTest::leftByNine, place, text);
    }

    private static void faults(Supplier<SecondHome> made, int place, String text) {
        reads(made, -1 - place, text);
        SecondHome x = made.get();
        SecondHome like = made.get();
        Check.text(x, text);
        like.wipe();
        Edge.same("text '" + text + "' changes nothing else", Edge.whole(x), Edge.whole(like));
    }

    /** No runner is there now, though nine were; another least pace and law than at first, and a sheet. */
    private static SecondHome leftByNine() {
        SecondHome x = new SecondHome();
        x.image();
        for (int r = 0; r < 9; r++) {
            x.runner(0, 4, 0);
        }
        x.undo();
        x.sheet(0, 8, 2);
        x.write(0, 1, 77);
        x.let(1, 4);
        x.let(2, 2);
        return x;
    }

    private static void letsAll(SecondHome x, int length, int least, int law) {
        Edge.answers(x, length, "now", 1);
        Edge.answers(x, least, "now", 2);
        Edge.answers(x, law, "now", 3);
    }

    static void anEmptyTapeEndsTooEarly() {
        Edge.promise(33, "With a FAULT: -1 less its place (nothing changes but that THE TAPE is empty; no finding).");
        Edge.keeps(SecondHome::new, -1, "text");
        faults(0, "");
        faults(1, " ");
        faults(119, "runner pace 12;".repeat(7) + "runner pace 12!");
        faults(120, "runner pace 12;".repeat(8));
        SecondHome x = Edge.some();
        x.feed('!', 1);
        int findings = x.status(-1);
        Edge.answers(x, -1 - 26, "text");
        Edge.answers(x, findings, "status", -1);
        Edge.answers(x, 0, "count", 1);
        Edge.answers(x, 3, "count", 0);
        Edge.answers(x, 3, "now", 3);
    }

    static void howManyItems() {
        Edge.promise(33, "THE TAPE is THE TEXT of a RACE, whose ITEMS come to what there is, and empty then: how many ITEMS.");
        reads(1, "law 0");
        reads(8, "runner pace 1;".repeat(7) + "runner pace 1");
        reads(20, "law 0;".repeat(19) + "law 0 ");
        reads(24, "law0;".repeat(23) + "law0");
        SecondHome x = Edge.some();
        Edge.answers(x, 2, "text");
        Edge.answers(x, 4, "count", 0);
        Edge.answers(x, 7, "of", 3, 1);
        Edge.answers(x, 9, "of", 3, 4);
        Edge.answers(x, 0, "now", 3);
        Edge.answers(x, 4, "now", 0);
        Edge.answers(x, -1, "text");
    }

    static void the120thByteCounts() {
        Edge.terms(33, "THE TEXT of a RACE, from THE TAPE (bytes, at most 120).");
        SecondHome x = new SecondHome();
        Edge.due("items", Check.text(x, "law 0;".repeat(19) + "law  3"), 20);
        Edge.answers(x, 3, "now", 3);
        faults(119, "law 0;".repeat(19) + "law 0x");
        faults(119, "law 0;".repeat(19) + "law 0\0");
        reads(-120, " ".repeat(115) + "law 9");
        reads(1, " ".repeat(115) + "law 2");
        reads(-121, " ".repeat(120));
    }

    static void tokensAreAsLongAsCanBe() {
        Edge.terms(33, "TOKENS, each as long as can be");
        reads(1, "runner pace5breath6start7");
        reads(2, "law1;law2");
        reads(1, "law 1");
        faults(0, "runnerpace 5");
        faults(7, "runner pacer 5");
        faults(4, "law 12");
        faults(12, "runner pace 55");
        faults(14, "runner pace 5 breathe 5");
    }

    static void wordsAreLettersAToZ() {
        Edge.terms(33, "WORDS (letters a to z)");
        for (int letter : new int[] {'a', 'z'}) {
            faults(4, "law " + (char) letter);
            faults(0, "law" + (char) letter + " 1");
            faults(0, (char) letter + "law 1");
        }
        for (int other : new int[] {'a' - 1, 'z' + 1, 'A', 'Z', 'a' + 128}) {
            faults(4, "law " + (char) other);
            faults(3, "law" + (char) other + " 1");
            faults(0, (char) other + "law 1");
        }
        faults(0, "Law 1");
        faults(1, " LAW 1");
    }

    static void numbersAreDigits9999AtMost() {
        Edge.terms(33, "NUMBERS (digits, 9999 at most)");
        reads(1, "length 9999");
        faults(7, "length 10000");
        faults(4, "law 10000");
        faults(4, "law 4294967297");
        faults(4, "law 18446744073709551617");
        faults(7, "length 4294967306");
        faults(7, "length 2147483648");
        faults(7, "length " + "9".repeat(113));
        reads(1, "law 0");
        for (String other : new String[] {";", ":", "z", "length", "pace"}) {
            faults(7, "length " + other);
            faults(12, "runner pace " + other);
            faults(21, "runner pace 1 breath " + other);
            faults(20, "runner pace 1 start " + other);
        }
        for (int other : new int[] {'0' - 1, '9' + 1, '0' + 128, '-', '+', '.'}) {
            faults(4, "law " + (char) other);
            faults(5, "law 1" + (char) other);
        }
    }

    static void theSignIsASemicolon() {
        Edge.terms(33, "SIGN ;");
        reads(2, "law 1;law 2");
        for (int other : new int[] {';' - 1, ';' + 1, ',', '\n', ';' + 128}) {
            faults(5, "law 1" + (char) other + "law 2");
        }
    }

    static void blanksMayStandBetween() {
        Edge.terms(33, "blanks may stand between.");
        reads(2, "  law   1  ;   law 2   ");
        faults(0, "l aw 1");
        faults(6, "law 1 1");
        faults(14, "runner pace 1 2");
        for (int other : new int[] {0, 9, 10, 13, ' ' - 1, ' ' + 1, 160, 255}) {
            faults(3, "law" + (char) other + "1");
            faults(0, (char) other + "law 1");
            faults(5, "law 1" + (char) other);
        }
    }

    static void atLeastOneItem() {
        Edge.terms(33, "TEXT: ITEM { ; ITEM }.");
        faults(0, "");
        faults(0, ";");
        faults(0, ";law 1");
        faults(6, "law 1;");
        faults(8, "law 1;  ");
        faults(6, "law 1;;law 1");
        faults(6, "law 1 law 1");
        faults(5, "law 1length 10");
        reads(1, "law 1");
        reads(2, "law 1;law 1");
    }

    static void eachNameOfAKind() {
        Edge.terms(33, "ITEM: the name of a KIND (runner holder keeper helper sprinter idler), pace, a NUMBER (1 to 12)");
        String[] names = {"runner", "holder", "keeper", "helper", "sprinter", "idler"};
        for (int kind = 0; kind < names.length; kind++) {
            String name = names[kind];
            for (int pace : new int[] {1, 12}) {
                SecondHome x = new SecondHome();
                Edge.due(name, Check.text(x, name + " pace " + pace), 1);
                int[] told = {kind, pace, 100, -1, 0, 0, 0, -1, 0};
                for (int what = 0; what < told.length; what++) {
                    Edge.answers(x, told[what], "of", 0, what);
                }
            }
            for (int pace : new int[] {0, 13, 9999, 10000}) {
                faults(name.length() + 6, name + " pace " + pace);
            }
            faults(0, name + "s pace 1");
            faults(0, name.substring(1) + " pace 1");
            faults(0, "x" + name.substring(1) + " pace 1");
            faults(0, name.substring(0, name.length() - 1) + "x pace 1");
            faults(0, name.substring(0, name.length() - 1) + " pace 1");
        }
        faults(0, "pace 1");
        faults(7, "runner 1");
        faults(7, "runner breath 1 pace 1");
        faults(12, "runner pace pace 1");
    }

    static void breathOfAnItemIs0To999() {
        Edge.terms(33, "perhaps breath and a NUMBER (0 to 999)");
        int[][] told = {{0, 0}, {999, 999}};
        for (int[] t : told) {
            SecondHome x = new SecondHome();
            Edge.due("breath " + t[0], Check.text(x, "runner pace 1 breath " + t[0]), 1);
            Edge.answers(x, t[1], "of", 0, 2);
        }
        faults(21, "runner pace 1 breath 1000");
        faults(21, "runner pace 1 breath 9999");
        faults(23, "runner pace 1 breath 0 breath 0");
        faults(22, "runner pace 1 start 0 breath 0");
    }

    static void breathIs100AtFirst() {
        Edge.terms(33, "BREATH (0 to 999; 100 at first)");
        SecondHome x = new SecondHome();
        Edge.due("items", Check.text(x, "runner pace 1 breath 7;runner pace 1;runner pace 1 start 5"), 3);
        Edge.answers(x, 7, "of", 0, 2);
        Edge.answers(x, 100, "of", 1, 2);
        Edge.answers(x, 100, "of", 2, 2);
    }

    static void aFriendOfAnItemIsThereByThen() {
        Edge.terms(33, "perhaps friend and a NUMBER (a RUNNER there by then)");
        faults(21, "runner pace 1 friend 0");
        faults(21, "runner pace 1 friend 1;runner pace 1");
        faults(35, "runner pace 1;runner pace 1 friend 1");
        faults(35, "runner pace 1;runner pace 1 friend 2");
        faults(() -> Edge.many(8), 21, "runner pace 1 friend 8");
        SecondHome x = Edge.many(7);
        Edge.due("items", Check.text(x, "runner pace 1 friend 6;runner pace 1 friend 7"), 2);
        Edge.answers(x, 6, "of", 7, 3);
        Edge.answers(x, 7, "of", 8, 3);
        SecondHome zero = Edge.many(1);
        Edge.due("items", Check.text(zero, "runner pace 1 friend 0;runner pace 1"), 2);
        Edge.answers(zero, 0, "of", 1, 3);
        Edge.answers(zero, -1, "of", 2, 3);
    }

    static void aStartOfAnItemIsBelowLength() {
        Edge.terms(33, "perhaps start and a NUMBER (0 to LENGTH less 1): a new one");
        int[][] told = {{10, 0}, {10, 9}, {9999, 9998}, {200, 199}};
        for (int[] t : told) {
            SecondHome x = new SecondHome();
            Edge.due("items", Check.text(x, "length " + t[0] + ";runner pace 1 start " + t[1]), 2);
            Edge.answers(x, t[1], "of", 0, 4);
        }
        faults(20, "runner pace 1 start 200");
        reads(1, "runner pace 1 start 199");
        faults(30, "length 10;runner pace 1 start 10");
        faults(32, "length 9999;runner pace 1 start 9999");
        faults(() -> Edge.many(1), 20, "runner pace 1 start 200");
        faults(22, "runner pace 1 start 1 start 1");
        faults(36, "runner pace 1;runner pace 1 start 1 friend 0");
    }

    /** That it stands there at once is a reading: the document tells it of set() alone that YARDS stay. */
    static void aNewOneIsSetAtItsStart() {
        Edge.terms(33, "START, 0 to LENGTH less 1, is where it is set");
        SecondHome x = new SecondHome();
        Edge.due("items", Check.text(x, "runner pace 1 start 0;runner pace 1 start 199;runner pace 1"), 3);
        int[] yards = {0, 199, 0};
        for (int r = 0; r < yards.length; r++) {
            Edge.answers(x, yards[r], "of", r, 5);
        }
    }

    static void anotherWordIsAtFault() {
        Edge.terms(33, "another WORD");
        String[] words = {"length 10", "least 1", "law 1"};
        for (String word : words) {
            faults(0, "x" + word);
            faults(0, "x" + word.substring(1));
            faults(0, word.substring(1));
            faults(0, word.replace(" ", "x "));
        }
        faults(7, "runner face 1");
        faults(14, "runner pace 1 xreath 1");
        faults(14, "runner pace 1 xtart 1");
        faults(28, "runner pace 1;runner pace 1 xriend 0");
    }

    static void lengthOfATextIs10To9999() {
        Edge.terms(33, "length and a NUMBER (10 to 9999; as long as there is no RUNNER)");
        for (int length : new int[] {10, 9999}) {
            SecondHome x = new SecondHome();
            Edge.due("items", Check.text(x, "length " + length), 1);
            letsAll(x, length, 1, 1);
        }
        faults(7, "length 9");
        faults(7, "length 0");
        faults(7, "length 10000");
        reads(2, "length 10;runner pace 1");
        faults(14, "runner pace 1;length 200");
        faults(() -> Edge.many(1), 0, "length 200");
        faults(() -> Edge.many(9), 6, "law 0;length 10");
        faults(() -> Edge.many(1), 0, "length 9");
    }

    static void leastOfATextIs0To5() {
        Edge.terms(33, "least and a NUMBER (0 to 5)");
        for (int least : new int[] {0, 5}) {
            SecondHome x = Edge.many(1);
            Edge.due("items", Check.text(x, "least " + least), 1);
            letsAll(x, 200, least, 1);
        }
        faults(6, "least 6");
        faults(() -> Edge.many(1), 6, "least 10");
    }

    static void lawOfATextIs0To3() {
        Edge.terms(33, "law and a NUMBER (0 to 3)");
        for (int law : new int[] {0, 3}) {
            SecondHome x = Edge.many(1);
            Edge.due("items", Check.text(x, "law " + law), 1);
            letsAll(x, 200, 1, law);
        }
        faults(4, "law 4");
        faults(() -> Edge.many(1), 4, "law 9999");
    }

    static void aNumberThatMayNotBe() {
        Edge.terms(33, "a NUMBER that may not be");
        String[] wrong = {"length 9", "least 6", "law 4", "runner pace 0", "runner pace 13",
            "runner pace 1 breath 1000", "runner pace 1 friend 0", "runner pace 1 start 200"};
        for (String text : wrong) {
            faults(text.lastIndexOf(' ') + 1, text);
            faults(text.lastIndexOf(' ') + 1, text + ";law 1");
            faults(text.lastIndexOf(' ') + 4, "   " + text);
        }
    }

    static void aByteThatBeginsNoToken() {
        Edge.terms(33, "a byte that begins no TOKEN");
        for (int b = 0; b < 256; b++) {
            boolean begins = b == ' ' || b == ';' || b >= '0' && b <= '9' || b >= 'a' && b <= 'z';
            if (!begins) {
                reads(-1, "" + (char) b);
                reads(-6, "law 1" + (char) b);
                reads(-5, "law " + (char) b + "1");
            }
        }
        faults(119, "law 1" + " ".repeat(114) + "!");
    }

    static void lengthWhileThereIsARunner() {
        Edge.terms(33, "length while there is a RUNNER: its own");
        faults(() -> Edge.many(1), 0, "length 10");
        faults(() -> Edge.many(1), 8, "least 0;length 9");
        faults(() -> Edge.many(1), 0, "length");
        faults(15, "runner pace 1; length 10");
        SecondHome x = Edge.many(1);
        Edge.due("text", Check.text(x, "length 300"), -1);
        Edge.answers(x, 200, "now", 1);
    }

    static void theFaultOfA10thIsItsName() {
        Edge.terms(33, "the name of a KIND for a 10th");
        faults(() -> Edge.many(9), 0, "runner pace 1");
        faults(() -> Edge.many(9), 0, "idler");
        faults(() -> Edge.many(9), 6, "law 0;idler pace 99");
        faults(() -> Edge.many(8), 14, "runner pace 1;runner pace 1");
        faults(() -> Edge.many(2), 105, "holder pace 1; ".repeat(7) + "helper pace 1");
        reads(() -> Edge.many(8), 1, "runner pace 1");
        reads(() -> Edge.many(9), 1, "law 0");
    }

    static void theFirstFaultIsTold() {
        Edge.terms(33, "FAULT: the place (from 0) of the first byte of the first TOKEN that can't stand there");
        faults(0, "x");
        faults(2, "  x");
        faults(12, "runner pace 0 pace 0");
        faults(12, "runner pace 13;law 9;!");
        faults(4, "law 9 !");
        faults(3, "law!9");
        faults(6, "law 1;x;y");
    }

    static void aTextThatEndsTooEarly() {
        Edge.terms(33, "or how many bytes there are if it ends too early.");
        String[] early = {"", "runner", "runner ", "runner pace", "runner pace  ", "runner pace 1 breath",
            "runner pace 1 start", "runner pace 1 start ", "runner pace 1;", "length", "least", "law", "law ", "   "};
        for (String text : early) {
            faults(text.length(), text);
        }
        faults(() -> Edge.many(1), 20, "runner pace 1 friend");
        reads(1, "runner pace 1");
        reads(1, "runner pace 1 ");
    }

    static void aTextWithAFaultLeavesNoItem() {
        Edge.promise(33, "nothing changes but that THE TAPE is empty; no finding");
        faults(24, "length 10;least 0;law 0;x");
        faults(() -> Edge.many(3), 28, "least 5;law 3;keeper pace 2;;");
        faults(Edge::some, 23, "law 1;idler pace 3;law 4");
    }
}
