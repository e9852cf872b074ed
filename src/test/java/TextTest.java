/** Promises 31 to 33: the tape and the text of a race. */
public final class TextTest {
    public static void main(String[] args) {
        feed();
        runners();
        track();
        tokens();
        faultsOfWords();
        faultsOfNumbers();
        endsTooEarly();
        full();
        nothingChanges();
        Check.end();
    }

    private static void feed() {
        SecondHome x = new SecondHome();
        Check.due("feed(0, 0)", x.feed(0, 0), Check.BEYOND);
        Check.due("feed(0, 5)", x.feed(0, 5), Check.BEYOND);
        Check.due("feed(0, -1)", x.feed(0, -1), Check.BEYOND);
        for (int i = 1; i <= 29; i++) {
            Check.due("feed 4", x.feed(i, 4), 4 * i);
        }
        Check.due("119", x.feed(0, 3), 119);
        Check.due("121 are too many", x.feed(0, 2), Check.FULL);
        Check.due("as many as before", x.count(1), 119);
        Check.due("120", x.feed(0, 1), 120);
        Check.due("full", x.feed(0, 1), Check.FULL);
        Check.due("BEYOND ahead of FULL", x.feed(0, 5), Check.BEYOND);
        Check.due("wipe", x.wipe(), 120);
        Check.due("wiped", x.wipe(), 0);
        x.feed('l' << 16 | 'a' << 8 | 'w', 3);
        x.feed(0x41414141 & ~255 | ' ', 1);
        x.feed('x' << 24 | 'y' << 16 | '2' << 8 | ' ', 2);
        Check.due("the lowest bytes, the highest of these first", x.text(), 1);
        Check.due("law 2", x.now(3), 2);
        Check.due("text empties THE TAPE", x.count(1), 0);
    }

    private static void runners() {
        SecondHome x = new SecondHome();
        Check.due("one", Check.text(x, "runner pace 5"), 1);
        told(x, 0, 0, 5, 100, -1, 0);
        Check.due("three", Check.text(x, "holder pace 12 breath 999;keeper pace 1 friend 0 ; helper pace 2 start 199"), 3);
        told(x, 1, 1, 12, 999, -1, 0);
        told(x, 2, 2, 1, 100, 0, 0);
        told(x, 3, 3, 2, 100, -1, 199);
        Check.due("a friend of the same text", Check.text(x, "sprinter pace 3 breath 0;idler pace 4 breath 7 friend 4 start 3"), 2);
        told(x, 4, 4, 3, 0, -1, 0);
        told(x, 5, 5, 4, 7, 4, 3);
        Check.due("where it is set", x.of(5, 5), 3);
        Check.due("how many", x.count(0), 6);
    }

    private static void told(SecondHome x, int r, int... due) {
        for (int what = 0; what < due.length; what++) {
            Check.due("of(" + r + ", " + what + ")", x.of(r, what), due[what]);
        }
        Check.due("POINTS", x.of(r, 6), 0);
        Check.due("not HOME", x.of(r, 7), -1);
    }

    private static void track() {
        SecondHome x = new SecondHome();
        Check.due("three items", Check.text(x, "length 10;least 0;law 3"), 3);
        Check.due("LENGTH", x.now(1), 10);
        Check.due("LEAST PACE", x.now(2), 0);
        Check.due("LAW", x.now(3), 3);
        Check.due("twice", Check.text(x, "length 10;length 9999;least 5;law 0;runner pace 1 start 9998"), 5);
        Check.due("LENGTH", x.now(1), 9999);
        Check.due("LEAST PACE", x.now(2), 5);
        Check.due("LAW", x.now(3), 0);
        Check.due("START below the new LENGTH", x.of(0, 4), 9998);
        Check.due("least and law with a RUNNER", Check.text(x, "least 2;law 1"), 2);
    }

    private static void tokens() {
        fault("runner pace 5", -1);
        fault("  runner   pace  5  ", -1);
        fault("runner pace5breath6start7", -1);
        fault("runner pace 00005", -1);
        fault("law2;law3", -1);
        fault("runnerpace 5", 0);
        fault("run ner pace 5", 0);
        fault("Runner pace 5", 0);
        fault("runner pace 1 2", 14);
        fault("runner pace\t5", 11);
        fault("runner pace -5", 12);
        fault("runner pace \u00e9", 12);
        fault("\u0000", 0);
        fault("law 1\u0000", 5);
        fault("lawz 1", 0);
        fault("alaw 1", 0);
        fault("xaw 1", 0);
        fault("la` 1", 0);
        fault("law :", 4);
        fault("law /", 4);
        fault("runner pace 5 ,", 14);
    }

    /** A text on a new object: its fault's place, or -1 if it has none. */
    private static void fault(String text, int place) {
        SecondHome x = new SecondHome();
        int got = Check.text(x, text);
        Check.due("fault of '" + text + "', answered " + got, got > 0 ? -1 : -1 - got, place);
        Check.due("no finding", x.status(-1), 0);
    }

    private static void faultsOfWords() {
        fault("pace 5", 0);
        fault("5", 0);
        fault(";law 1", 0);
        fault("law 1;;law 1", 6);
        fault("law 1 law 1", 6);
        fault("runner 5", 7);
        fault("runner breath 5", 7);
        fault("runner pace pace", 12);
        fault("runner pace ;", 12);
        fault("runner pace 5 law 1", 14);
        fault("runner pace 5 pace 5", 14);
        fault("law 1;runner pace 5 start 5 breath 5", 28);
        fault("runner pace 5 breath 5 breath 5", 23);
        fault("runner pace 5;runner pace 5 friend 0 friend 0", 37);
        fault("runner pace 5 start 5 start 5", 22);
        fault("runner pace 5; length 10", 15);
        fault("runner pace 5 breath ;", 21);
        fault("law law", 4);
        fault("runner pace 5;runners pace 5", 14);
    }

    private static void faultsOfNumbers() {
        fault("runner pace 0", 12);
        fault("runner pace 12", -1);
        fault("runner pace 13", 12);
        fault("runner pace 4294967301", 12);
        fault("runner pace 99999999999999999999999999999999999999", 12);
        fault("runner pace 5 breath 1000", 21);
        fault("runner pace 5 breath 999", -1);
        fault("runner pace 5 friend 0", 21);
        fault("runner pace 5;runner pace 5 friend 0", -1);
        fault("runner pace 5;runner pace 5 friend 1", 35);
        fault("runner pace 5 breath 0 start 0", -1);
        fault("runner pace 5 start 199", -1);
        fault("runner pace 5 start 200", 20);
        fault("length 50;runner pace 5 start 50", 30);
        fault("length 9", 7);
        fault("length 10000", 7);
        fault("least 6", 6);
        fault("law 4", 4);
        fault("law 10000", 4);
    }

    private static void endsTooEarly() {
        fault("", 0);
        fault("   ", 3);
        fault("runner", 6);
        fault("runner ", 7);
        fault("runner pace", 11);
        fault("runner pace 5 breath", 20);
        fault("runner pace 5 friend  ", 22);
        fault("runner pace 5 start", 19);
        fault("runner pace 5;", 14);
        fault("length", 6);
        fault("least", 5);
        fault("law", 3);
    }

    private static void full() {
        SecondHome x = new SecondHome();
        for (int r = 0; r < 8; r++) {
            x.runner(0, 1, 0);
        }
        Check.due("a 10th in a text", Check.text(x, "idler pace 1; idler pace 1"), -15);
        Check.due("nothing came", x.count(0), 8);
        Check.due("a 9th", Check.text(x, "idler pace 1;law 2"), 2);
        Check.due("a 10th", Check.text(x, "law 3;idler pace 1"), -7);
        Check.due("law stays", x.now(3), 2);
        StringBuilder b = new StringBuilder("law 1");
        for (int i = 1; i < 20; i++) {
            b.append(";law ").append(i % 4);
        }
        Check.due("a full tape", b.append(' ').length(), 120);
        Check.due("many items", Check.text(x, b.toString()), 20);
        Check.due("the last of them", x.now(3), 3);
    }

    private static void nothingChanges() {
        SecondHome x = new SecondHome();
        x.runner(1, 2, 3);
        x.seconds(3);
        x.wipe();
        String before = Check.picture(x);
        Check.due("a fault at the end", Check.text(x, "least 0;law 0;runner pace 4;x"), -29);
        Check.due("nothing changes, THE TAPE is empty", Check.picture(x).equals(before) ? 1 : 0, 1);
        Check.due("no finding", x.status(-1), 0);
        x.image();
        Check.due("seconds go on", Check.text(x, "runner pace 1"), 1);
        Check.due("SECOND stays", x.now(0), 3);
    }
}
