import java.util.Arrays;

/** Races on a track in which a law says whose place has the prize; ../shared/DOC.md tells each promise. */
public final class SecondHome {
    private static final int BEYOND = -1000000001;
    private static final int FULL = -1000000002;
    private static final int KIND = -1000000003;
    private static final int NONE = -1000000004;
    private static final int STATE = -1000000005;
    private static final int MISSING = -1000000006;
    private static final int SIZE = -1000000007;
    private static final int FINDINGS = 7;

    private static final int RUNNERS_MOST = 9;
    private static final int KINDS = 6;
    private static final int LAWS = 4;
    private static final int PACE_MOST = 12;
    private static final int BREATH_MOST = 999;
    private static final int BREATH_FIRST = 100;
    private static final int LENGTH_LEAST = 10;
    private static final int LENGTH_MOST = 9999;
    private static final int LEAST_PACE_MOST = 5;
    private static final int SECONDS_MOST = 600;
    private static final int ON_MOST = 2000;
    private static final int START_TRIED_MOST = 200;
    private static final int START_TRIED_STEP = 5;
    private static final int DRAWN_RACES_MOST = 20;
    private static final int TAPE_MOST = 120;
    private static final int SHEETS = 4;
    private static final int SHEET_MOST = 40;
    private static final int NOBODY = -1;

    private final Track track = new Track();
    private final Track trial = new Track();
    private final Track kept = new Track();
    private boolean hasKept;
    private final Tape tape = new Tape();
    private final Sheet[] sheets = new Sheet[SHEETS];
    private final int[] findings = new int[FINDINGS];

    public SecondHome() {
        for (int i = 0; i < SHEETS; i++) {
            sheets[i] = new Sheet();
        }
    }

    // ---- the track, runners

    public int let(int what, int v) {
        switch (what) {
            case 0:
                return letLength(v);
            case 1:
                return letLeast(v);
            case 2:
                return letLaw(v);
            default:
                return found(BEYOND);
        }
    }

    public int runner(int kind, int pace, int breath) {
        if (!isKind(kind) || !isPace(pace) || !isBreath(breath)) {
            return found(BEYOND);
        }
        if (track.count >= RUNNERS_MOST) {
            return found(FULL);
        }
        return track.add(kind, pace, breath);
    }

    public int of(int runner, int what) {
        if (!track.has(runner)) {
            return found(BEYOND);
        }
        switch (what) {
            case 0:
                return track.kinds[runner];
            case 1:
                return track.paces[runner];
            case 2:
                return track.breaths[runner];
            case 3:
                return track.friends[runner];
            case 4:
                return track.starts[runner];
            case 5:
                return track.yards[runner];
            case 6:
                return track.points[runner];
            case 7:
                return track.homes[runner];
            case 8:
                return track.placeOf(runner);
            default:
                return found(BEYOND);
        }
    }

    public int set(int runner, int what, int v) {
        if (!track.has(runner)) {
            return found(BEYOND);
        }
        switch (what) {
            case 1:
                return isPace(v) ? exchange(track.paces, runner, v) : found(BEYOND);
            case 2:
                return isBreath(v) ? exchange(track.breaths, runner, v) : found(BEYOND);
            case 3:
                return isFriendFor(runner, v) ? exchange(track.friends, runner, v) : found(BEYOND);
            case 4:
                return track.isStart(v) ? exchange(track.starts, runner, v) : found(BEYOND);
            default:
                return found(BEYOND);
        }
    }

    public int turn(int runner, int kind) {
        if (!track.has(runner) || !isKind(kind)) {
            return found(BEYOND);
        }
        return exchange(track.kinds, runner, kind);
    }

    public int as(int runner, int kind) {
        if (!track.has(runner) || !isKind(kind)) {
            return found(BEYOND);
        }
        if (!Kinds.isUnder(track.kinds[runner], kind)) {
            return found(KIND);
        }
        return track.paces[runner];
    }

    public int wish(int runner) {
        if (!track.has(runner)) {
            return found(BEYOND);
        }
        if (track.isHome(runner)) {
            return found(STATE);
        }
        return track.wishOf(runner, track.firstAlone());
    }

    public int line() {
        int wereHome = track.homeCount;
        track.lineUp();
        return wereHome;
    }

    // ---- seconds

    public int seconds(int n) {
        if (n < 1 || n > SECONDS_MOST) {
            return found(BEYOND);
        }
        int before = track.homeCount;
        track.goOn(n);
        return track.homeCount - before;
    }

    public int now(int what) {
        switch (what) {
            case 0:
                return track.second;
            case 1:
                return track.length;
            case 2:
                return track.least;
            case 3:
                return track.law;
            case 4:
                return track.homeCount;
            default:
                return found(BEYOND);
        }
    }

    public int place(int i) {
        return track.has(i) ? track.whoseAt(i) : found(BEYOND);
    }

    public int prize() {
        return runnerOrNone(track.prizeOwner(track.law));
    }

    public int score() {
        if (track.count == 0 || !track.allHome()) {
            return found(STATE);
        }
        return track.givePoints();
    }

    public int leads() {
        return runnerOrNone(most(track.points));
    }

    // ---- on

    public int on(int runner, int n) {
        if (!track.has(runner) || n < 0 || n > ON_MOST) {
            return found(BEYOND);
        }
        Track t = tryOut();
        t.goOn(n);
        return t.yards[runner];
    }

    public int home(int runner) {
        if (!track.has(runner)) {
            return found(BEYOND);
        }
        Track t = tryOut();
        t.goOn(ON_MOST);
        return t.isHome(runner) ? t.homes[runner] : found(NONE);
    }

    public int prizeBy(int law) {
        if (!isLaw(law)) {
            return found(BEYOND);
        }
        Track t = tryOut();
        t.goOn(ON_MOST);
        return runnerOrNone(t.allHome() ? t.prizeOwner(law) : NOBODY);
    }

    public int leaders() {
        Track t = tryOut();
        int latest = NOBODY;
        int changes = 0;
        for (int i = 0; i <= ON_MOST && !t.allHome(); i++) {
            int first = t.firstAlone();
            if (first != NOBODY && first != latest) {
                latest = first;
                changes++;
            }
            t.goSecond();
        }
        return changes;
    }

    public int passes(int one, int other) {
        if (!track.has(one) || !track.has(other) || one == other) {
            return found(BEYOND);
        }
        Track t = tryOut();
        for (int i = 0; i <= ON_MOST; i++) {
            if (t.yards[one] > t.yards[other]) {
                return i;
            }
            if (t.allHome()) {
                break;
            }
            t.goSecond();
        }
        return found(NONE);
    }

    public int race() {
        return runnerOrNone(tryOut().raceOwner());
    }

    // ---- how to run it

    public int pace(int runner) {
        if (!track.has(runner)) {
            return found(BEYOND);
        }
        for (int v = 1; v <= PACE_MOST; v++) {
            Track t = tryOut();
            t.paces[runner] = v;
            if (t.raceOwner() == runner) {
                return v;
            }
        }
        return found(NONE);
    }

    public int kind(int runner) {
        if (!track.has(runner)) {
            return found(BEYOND);
        }
        for (int v = 0; v < KINDS; v++) {
            Track t = tryOut();
            t.kinds[runner] = v;
            if (t.raceOwner() == runner) {
                return v;
            }
        }
        return found(NONE);
    }

    public int start(int runner) {
        if (!track.has(runner)) {
            return found(BEYOND);
        }
        for (int v = 0; v <= START_TRIED_MOST && v < track.length; v += START_TRIED_STEP) {
            Track t = tryOut();
            t.starts[runner] = v;
            if (t.raceOwner() == runner) {
                return v;
            }
        }
        return found(NONE);
    }

    public int favours(int runner) {
        if (!track.has(runner)) {
            return found(BEYOND);
        }
        Track t = tryOut();
        t.lineUp();
        t.goOn(ON_MOST);
        if (!t.allHome()) {
            return found(NONE);
        }
        int laws = 0;
        for (int law = 0; law < LAWS; law++) {
            if (t.prizeOwner(law) == runner) {
                laws |= 1 << law;
            }
        }
        return laws;
    }

    public int friend(int runner) {
        if (!track.has(runner)) {
            return found(BEYOND);
        }
        for (int v = NOBODY; v < track.count; v++) {
            if (v == runner) {
                continue;
            }
            Track t = tryOut();
            t.friends[runner] = v;
            if (t.raceOwner() == runner) {
                return v;
            }
        }
        return found(NONE);
    }

    public int deal() {
        int owner = tryOut().raceOwner();
        if (owner == NOBODY) {
            return found(NONE);
        }
        for (int one = 0; one < track.count; one++) {
            for (int other = one + 1; other < track.count; other++) {
                Track t = tryOut();
                t.changePaces(one, other);
                int changed = t.raceOwner();
                if (changed != NOBODY && changed != owner) {
                    return 10 * one + other;
                }
            }
        }
        return found(NONE);
    }

    public int fair() {
        int fastest = most(track.paces);
        if (fastest == NOBODY) {
            return found(NONE);
        }
        for (int v = 0; v <= LEAST_PACE_MOST; v++) {
            Track t = tryOut();
            t.least = v;
            if (t.raceOwner() == fastest) {
                return v;
            }
        }
        return found(NONE);
    }

    public int odds(int runner, int n, int z) {
        if (!track.has(runner) || n < 1 || n > DRAWN_RACES_MOST) {
            return found(BEYOND);
        }
        int drawn = z;
        int had = 0;
        for (int i = 0; i < n; i++) {
            Track t = tryOut();
            for (int r = 0; r < t.count; r++) {
                drawn = drawn * 1103515245 + 12345;
                t.paces[r] = (drawn >>> 8) % PACE_MOST + 1;
            }
            if (t.raceOwner() == runner) {
                had++;
            }
        }
        return had;
    }

    public int unwilling() {
        Track t = tryOut();
        t.lineUp();
        int set = 0;
        for (int i = 0; i < ON_MOST && !t.allHome(); i++) {
            int first = t.firstAlone();
            boolean hadBreath = t.has(first) && t.breaths[first] >= t.paces[first] - Track.EASY;
            t.goSecond();
            if (hadBreath && t.strides[first] < t.paces[first]) {
                set |= 1 << first;
            }
        }
        return set;
    }

    // ---- the text

    public int feed(int bytes, int n) {
        if (n < 1 || n > 4) {
            return found(BEYOND);
        }
        if (tape.size + n > TAPE_MOST) {
            return found(FULL);
        }
        for (int i = n - 1; i >= 0; i--) {
            tape.add(bytes >>> (8 * i));
        }
        return tape.size;
    }

    public int wipe() {
        return tape.empty();
    }

    public int text() {
        Track t = tryOut();
        int items = tape.readRace(t);
        tape.empty();
        if (items >= 0) {
            track.takeOver(t);
        }
        return items;
    }

    // ---- sheets

    public int sheet(int s, int bits, int n) {
        if (!isSheet(s) || !isWidth(bits)) {
            return found(BEYOND);
        }
        if (n < 0) {
            return found(SIZE);
        }
        if (n > SHEET_MOST) {
            return found(BEYOND);
        }
        return sheets[s].lay(bits, n);
    }

    public long write(int s, int i, long v) {
        int refusal = sheetRefusal(s);
        if (refusal != 0) {
            return found(refusal);
        }
        if (!sheets[s].has(i)) {
            return found(BEYOND);
        }
        long was = sheets[s].numbers[i];
        sheets[s].put(i, v);
        return was;
    }

    public int copy(int s, int from, int t, int to, int n) {
        if (!isSheet(s) || !isSheet(t)) {
            return found(BEYOND);
        }
        if (sheets[s].isMissing() || sheets[t].isMissing()) {
            return found(MISSING);
        }
        if (sheets[s].bits != sheets[t].bits) {
            return found(KIND);
        }
        if (!sheets[s].hasRow(from, n) || !sheets[t].hasRow(to, n)) {
            return found(BEYOND);
        }
        System.arraycopy(sheets[s].numbers, from, sheets[t].numbers, to, n);
        return n;
    }

    public int lays(int s) {
        int refusal = sheetRefusal(s);
        if (refusal != 0) {
            return found(refusal);
        }
        Sheet from = sheets[s];
        int came = 0;
        for (int i = 0; i < from.size && i < track.count; i++) {
            long v = from.numbers[i];
            if (v >= 1 && v <= PACE_MOST) {
                track.paces[i] = (int) v;
                came++;
            }
        }
        return came;
    }

    public int film(int s, int runner) {
        int refusal = sheetRefusal(s);
        if (refusal != 0) {
            return found(refusal);
        }
        if (!track.has(runner)) {
            return found(BEYOND);
        }
        Sheet to = sheets[s];
        Track t = tryOut();
        for (int i = 0; i < to.size; i++) {
            to.put(i, t.yards[runner]);
            t.goOn(1);
        }
        return to.size;
    }

    public int read(int s) {
        int refusal = sheetRefusal(s);
        if (refusal != 0) {
            return found(refusal);
        }
        int fitting = allFitting(sheets[s]);
        for (int r = 0; r < track.count; r++) {
            if ((fitting & (1 << r)) != 0) {
                return r;
            }
        }
        return found(NONE);
    }

    // ---- images

    public int image() {
        kept.takeOver(track);
        hasKept = true;
        return 1;
    }

    public int undo() {
        if (!hasKept) {
            return found(NONE);
        }
        track.takeOver(kept);
        return track.count;
    }

    public int tear() {
        int had = hasKept ? 1 : 0;
        hasKept = false;
        return had;
    }

    public int count(int what) {
        switch (what) {
            case 0:
                return track.count;
            case 1:
                return tape.size;
            case 2:
                return sum(track.yards);
            case 3:
                return sum(track.breaths);
            case 4:
                return sum(track.points);
            default:
                return found(BEYOND);
        }
    }

    public int status(int which) {
        if (which < -1 || which >= FINDINGS) {
            return found(BEYOND);
        }
        if (which >= 0) {
            return findings[which];
        }
        int all = 0;
        for (int i = 0; i < FINDINGS; i++) {
            all += findings[i];
        }
        return all;
    }

    // ---- what the calls share

    private int found(int finding) {
        int which = BEYOND - finding;
        if (which >= 0 && which < FINDINGS) {
            findings[which]++;
        }
        return finding;
    }

    private int runnerOrNone(int runner) {
        return runner == NOBODY ? found(NONE) : runner;
    }

    private int letLength(int v) {
        if (v < LENGTH_LEAST || v > LENGTH_MOST) {
            return found(BEYOND);
        }
        if (track.count > 0) {
            return found(STATE);
        }
        int was = track.length;
        track.length = v;
        return was;
    }

    private int letLeast(int v) {
        if (v < 0 || v > LEAST_PACE_MOST) {
            return found(BEYOND);
        }
        int was = track.least;
        track.least = v;
        return was;
    }

    private int letLaw(int v) {
        if (!isLaw(v)) {
            return found(BEYOND);
        }
        int was = track.law;
        track.law = v;
        return was;
    }

    private boolean isFriendFor(int runner, int v) {
        return v == NOBODY || track.has(v) && v != runner;
    }

    /** One track serves all trials, so that calls make no objects: what the one before left is gone. */
    private Track tryOut() {
        trial.takeOver(track);
        return trial;
    }

    private int most(int[] values) {
        int best = NOBODY;
        for (int r = 0; r < track.count && r < values.length; r++) {
            if (best == NOBODY || values[r] > values[best]) {
                best = r;
            }
        }
        return best;
    }

    private int sum(int[] values) {
        int all = 0;
        for (int r = 0; r < track.count && r < values.length; r++) {
            all += values[r];
        }
        return all;
    }

    private int sheetRefusal(int s) {
        if (!isSheet(s)) {
            return BEYOND;
        }
        return sheets[s].isMissing() ? MISSING : 0;
    }

    private int allFitting(Sheet seen) {
        Track t = tryOut();
        int fitting = (1 << t.count) - 1;
        for (int i = 0; i < seen.size && fitting != 0; i++) {
            for (int r = 0; r < t.count; r++) {
                if (t.yards[r] != seen.numbers[i]) {
                    fitting &= ~(1 << r);
                }
            }
            t.goOn(1);
        }
        return fitting;
    }

    private static int exchange(int[] row, int i, int v) {
        if (i < 0 || i >= row.length) {
            return v;
        }
        int was = row[i];
        row[i] = v;
        return was;
    }

    private static boolean isKind(int v) {
        return v >= 0 && v < KINDS;
    }

    private static boolean isPace(int v) {
        return v >= 1 && v <= PACE_MOST;
    }

    private static boolean isBreath(int v) {
        return v >= 0 && v <= BREATH_MOST;
    }

    private static boolean isLaw(int v) {
        return v >= 0 && v < LAWS;
    }

    private static boolean isSheet(int s) {
        return s >= 0 && s < SHEETS;
    }

    private static boolean isWidth(int bits) {
        return bits == 0 || bits == 8 || bits == 16 || bits == 64;
    }

    /** The kinds of runners, and which is under which. */
    private static final class Kinds {
        static final int RUNNER = 0;
        static final int HOLDER = 1;
        static final int KEEPER = 2;
        static final int HELPER = 3;
        static final int SPRINTER = 4;
        static final int IDLER = 5;
        static final int NO_KIND = -1;
        private static final int[] ABOVE = {NO_KIND, RUNNER, RUNNER, KEEPER, HOLDER, HOLDER};

        static boolean isUnder(int kind, int other) {
            int k = kind;
            for (int i = 0; i < KINDS && k >= 0 && k < ABOVE.length; i++) {
                if (k == other) {
                    return true;
                }
                k = ABOVE[k];
            }
            return false;
        }

        static String name(int kind) {
            switch (kind) {
                case RUNNER:
                    return "runner";
                case HOLDER:
                    return "holder";
                case KEEPER:
                    return "keeper";
                case HELPER:
                    return "helper";
                case SPRINTER:
                    return "sprinter";
                default:
                    return "idler";
            }
        }
    }

    /** The track with its runners: all that an image keeps. */
    private static final class Track {
        /** A second with so many yards takes no breath. */
        static final int EASY = 4;
        private static final int SPRINT = 40;
        private static final int PRIZE_POINTS = 10;

        int length = 200;
        int least = 1;
        int law = 1;
        int second;
        int count;
        /** Kept beside homes, so that each second needn't count them. */
        int homeCount;
        final int[] kinds = new int[RUNNERS_MOST];
        final int[] paces = new int[RUNNERS_MOST];
        final int[] breaths = new int[RUNNERS_MOST];
        final int[] friends = new int[RUNNERS_MOST];
        final int[] starts = new int[RUNNERS_MOST];
        final int[] yards = new int[RUNNERS_MOST];
        final int[] points = new int[RUNNERS_MOST];
        /** At which second each is home; -1 while it isn't. */
        final int[] homes = new int[RUNNERS_MOST];
        /** What each ran in the latest second: all wishes are told before the first one moves. */
        final int[] strides = new int[RUNNERS_MOST];

        void takeOver(Track other) {
            length = other.length;
            least = other.least;
            law = other.law;
            second = other.second;
            count = other.count;
            homeCount = other.homeCount;
            for (int r = 0; r < RUNNERS_MOST; r++) {
                kinds[r] = other.kinds[r];
                paces[r] = other.paces[r];
                breaths[r] = other.breaths[r];
                friends[r] = other.friends[r];
                starts[r] = other.starts[r];
                yards[r] = other.yards[r];
                points[r] = other.points[r];
                homes[r] = other.homes[r];
            }
        }

        int add(int kind, int pace, int breath) {
            if (count < 0 || count >= RUNNERS_MOST) {
                return NOBODY;
            }
            int r = count;
            kinds[r] = kind;
            paces[r] = pace;
            breaths[r] = breath;
            friends[r] = NOBODY;
            starts[r] = 0;
            yards[r] = 0;
            points[r] = 0;
            homes[r] = -1;
            count++;
            return r;
        }

        void changePaces(int one, int other) {
            if (has(one) && has(other)) {
                int pace = paces[one];
                paces[one] = paces[other];
                paces[other] = pace;
            }
        }

        boolean has(int r) {
            return r >= 0 && r < count && r < RUNNERS_MOST;
        }

        boolean isStart(int v) {
            return v >= 0 && v < length;
        }

        boolean isHome(int r) {
            return has(r) && homes[r] >= 0;
        }

        boolean allHome() {
            return homeCount >= count;
        }

        void lineUp() {
            for (int r = 0; r < count; r++) {
                yards[r] = starts[r];
                homes[r] = -1;
            }
            second = 0;
            homeCount = 0;
        }

        /** The one not home who has more yards than each other one not home. */
        int firstAlone() {
            int first = NOBODY;
            int most = -1;
            for (int r = 0; r < count; r++) {
                if (homes[r] >= 0) {
                    continue;
                }
                if (yards[r] > most) {
                    most = yards[r];
                    first = r;
                } else if (yards[r] == most) {
                    first = NOBODY;
                }
            }
            return first;
        }

        int wishOf(int r, int first) {
            if (!has(r)) {
                return 0;
            }
            switch (kinds[r]) {
                case Kinds.HOLDER:
                    return holderWish(r, first);
                case Kinds.KEEPER:
                    return keeperWish(r);
                case Kinds.HELPER:
                    return isHome(friends[r]) ? least : keeperWish(r);
                case Kinds.SPRINTER:
                    return sprinterWish(r, first);
                case Kinds.IDLER:
                    return Math.min(holderWish(r, first), least + 2);
                default:
                    return paces[r];
            }
        }

        /** Compared without a quotient: one that is cut would make 11 yards three quarters of 15. */
        private int holderWish(int r, int first) {
            return r == first && 4 * yards[r] >= 3 * length ? least : paces[r];
        }

        private int keeperWish(int r) {
            int friend = friends[r];
            if (!has(friend) || homes[friend] >= 0) {
                return paces[r];
            }
            return Math.max(1, Math.min(paces[r], yards[friend] - yards[r]));
        }

        private int sprinterWish(int r, int first) {
            boolean isFirstOfAll = r == first && homeCount == 0;
            int wish = holderWish(r, first);
            return yards[r] >= length - SPRINT && !isFirstOfAll ? 2 * wish : wish;
        }

        void goOn(int n) {
            for (int i = 0; i < n && !allHome(); i++) {
                goSecond();
            }
        }

        void goSecond() {
            int first = firstAlone();
            for (int r = 0; r < count; r++) {
                strides[r] = homes[r] >= 0 ? 0 : strideOf(r, Math.max(wishOf(r, first), least));
            }
            second++;
            for (int r = 0; r < count; r++) {
                yards[r] += strides[r];
                if (homes[r] < 0 && yards[r] >= length) {
                    homes[r] = second;
                    homeCount++;
                }
            }
        }

        private int strideOf(int r, int w) {
            int above = w - EASY;
            if (above > breaths[r]) {
                return Math.max(EASY, least);
            }
            if (above > 0) {
                breaths[r] -= above;
            } else if (above < 0) {
                breaths[r] = Math.min(breaths[r] + 1, BREATH_MOST);
            }
            return w;
        }

        private boolean isAhead(int one, int other) {
            boolean oneHome = homes[one] >= 0;
            if (oneHome != homes[other] >= 0) {
                return oneHome;
            }
            if (homes[one] != homes[other]) {
                return homes[one] < homes[other];
            }
            if (yards[one] != yards[other]) {
                return yards[one] > yards[other];
            }
            return one < other;
        }

        int placeOf(int r) {
            int ahead = 0;
            if (has(r)) {
                for (int i = 0; i < count; i++) {
                    if (i != r && isAhead(i, r)) {
                        ahead++;
                    }
                }
            }
            return ahead;
        }

        int whoseAt(int place) {
            for (int r = 0; r < count; r++) {
                if (placeOf(r) == place) {
                    return r;
                }
            }
            return NOBODY;
        }

        int prizeOwner(int byLaw) {
            switch (byLaw) {
                case 0:
                    return whoseAt(0);
                case 1:
                    return whoseAt(1);
                case 2:
                    return whoseAt(count - 2);
                default:
                    return whoseAt((count - 1) / 2);
            }
        }

        /** Who has the prize of a race run here; nobody, if not all come home. */
        int raceOwner() {
            lineUp();
            goOn(ON_MOST);
            return allHome() ? prizeOwner(law) : NOBODY;
        }

        int givePoints() {
            int given = 0;
            int owner = prizeOwner(law);
            for (int r = 0; r < count; r++) {
                int got = count - 1 - placeOf(r) + (r == owner ? PRIZE_POINTS : 0);
                points[r] += got;
                given += got;
            }
            return given;
        }
    }

    /** The tape, and how a race is read from it. */
    private static final class Tape {
        private static final int END = 0;
        private static final int WORD = 1;
        private static final int NUMBER = 2;
        private static final int SIGN = 3;
        private static final int NO_TOKEN = 4;
        private static final int NUMBER_MOST = 9999;

        int size;
        private final byte[] bytes = new byte[TAPE_MOST];
        /** The token that is looked at: what it is, its first byte, the byte behind it. */
        private int token;
        private int from;
        private int behind;
        /** What the latest number was, or what stands for one that needn't be there. */
        private int value;

        void add(int b) {
            if (size >= 0 && size < TAPE_MOST) {
                bytes[size] = (byte) b;
                size++;
            }
        }

        int empty() {
            int had = size;
            size = 0;
            return had;
        }

        /** Items come to a track one by one: how many, or -1 less the place of the fault. */
        int readRace(Track t) {
            behind = 0;
            next();
            for (int items = 1; items <= TAPE_MOST; items++) {
                if (!readItem(t)) {
                    break;
                }
                if (token == END) {
                    return items;
                }
                if (token != SIGN) {
                    break;
                }
                next();
            }
            return -1 - from;
        }

        /** A part that can't be read leaves the token at fault as the one that is looked at. */
        private boolean readItem(Track t) {
            int kind = kindNamed();
            if (kind != Kinds.NO_KIND) {
                return t.count < RUNNERS_MOST && readRunner(t, kind);
            }
            if (isWord("length")) {
                return t.count == 0 && readLength(t);
            }
            if (isWord("least")) {
                return readLeast(t);
            }
            return isWord("law") && readLaw(t);
        }

        private boolean readLength(Track t) {
            if (!readNumberBehind(LENGTH_LEAST, LENGTH_MOST)) {
                return false;
            }
            t.length = value;
            return true;
        }

        private boolean readLeast(Track t) {
            if (!readNumberBehind(0, LEAST_PACE_MOST)) {
                return false;
            }
            t.least = value;
            return true;
        }

        private boolean readLaw(Track t) {
            if (!readNumberBehind(0, LAWS - 1)) {
                return false;
            }
            t.law = value;
            return true;
        }

        private boolean readRunner(Track t, int kind) {
            next();
            if (!isWord("pace") || !readNumberBehind(1, PACE_MOST)) {
                return false;
            }
            int pace = value;
            value = BREATH_FIRST;
            if (isWord("breath") && !readNumberBehind(0, BREATH_MOST)) {
                return false;
            }
            int breath = value;
            value = NOBODY;
            if (isWord("friend") && !readNumberBehind(0, t.count - 1)) {
                return false;
            }
            int friend = value;
            value = 0;
            if (isWord("start") && !readNumberBehind(0, t.length - 1)) {
                return false;
            }
            int r = t.add(kind, pace, breath);
            if (t.has(r)) {
                t.friends[r] = friend;
                t.starts[r] = value;
                t.yards[r] = value;
            }
            return true;
        }

        private boolean readNumberBehind(int lowest, int most) {
            next();
            if (token != NUMBER) {
                return false;
            }
            value = numberHere();
            if (value < lowest || value > most) {
                return false;
            }
            next();
            return true;
        }

        private int numberHere() {
            int v = 0;
            for (int i = from; i < behind && v <= NUMBER_MOST; i++) {
                v = 10 * v + byteAt(i) - '0';
            }
            return v;
        }

        private int kindNamed() {
            for (int k = 0; k < KINDS; k++) {
                if (isWord(Kinds.name(k))) {
                    return k;
                }
            }
            return Kinds.NO_KIND;
        }

        private boolean isWord(String word) {
            if (token != WORD || word.length() != behind - from) {
                return false;
            }
            for (int i = 0; i < word.length(); i++) {
                if (word.charAt(i) != byteAt(from + i)) {
                    return false;
                }
            }
            return true;
        }

        private void next() {
            from = behind;
            while (from < size && byteAt(from) == ' ') {
                from++;
            }
            token = tokenBegunBy(byteAt(from));
            behind = from + 1;
            if (token == WORD || token == NUMBER) {
                while (behind < size && tokenBegunBy(byteAt(behind)) == token) {
                    behind++;
                }
            }
        }

        private static int tokenBegunBy(int b) {
            if (b < 0) {
                return END;
            }
            if (b >= 'a' && b <= 'z') {
                return WORD;
            }
            if (b >= '0' && b <= '9') {
                return NUMBER;
            }
            return b == ';' ? SIGN : NO_TOKEN;
        }

        /** -1 behind the last byte. */
        private int byteAt(int i) {
            return i >= 0 && i < size && i < TAPE_MOST ? bytes[i] & 255 : -1;
        }
    }

    /** A row of numbers of so many bits; 0 bits: it is missing. */
    private static final class Sheet {
        int bits;
        int size;
        final long[] numbers = new long[SHEET_MOST];

        boolean isMissing() {
            return bits == 0;
        }

        boolean has(int i) {
            return i >= 0 && i < size && i < SHEET_MOST;
        }

        boolean hasRow(int at, int n) {
            return at >= 0 && n >= 0 && n <= size && at <= size - n;
        }

        int lay(int newBits, int n) {
            bits = newBits;
            size = newBits == 0 ? 0 : n;
            Arrays.fill(numbers, 0L);
            return size;
        }

        void put(int i, long v) {
            if (has(i)) {
                numbers[i] = lowest(v);
            }
        }

        private long lowest(long v) {
            switch (bits) {
                case 8:
                    return (byte) v;
                case 16:
                    return (short) v;
                default:
                    return v;
            }
        }
    }
}
