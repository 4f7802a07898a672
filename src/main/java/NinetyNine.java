/**
 * A bar that fills over work in pieces: what it shows second by second, how far that is off the truth, what one who
 * waits makes of it, and what a showing tells of the work behind it. ../shared/DOC.md says what each call answers.
 */
public final class NinetyNine {
    public static final int BAD = -1, NOT = -2, FULL = -3, STATE = -5, VOID = -2000000000;

    private static final int NOTHING_THERE = -11, OTHER_KIND = -12, NO_PLACE = -13, BELOW_ZERO = -14;
    private static final int PIECES = 6, SHELVES = 6, SECONDS = 1000, LAST_SECOND = 999;
    private static final int BYTES = 0, SPEED = 1, STUCK = 2, FILES = 3, MEASURE = 4, SMOOTH = 5, NEVER = 6;
    private static final int BY_FILES = 0, BY_BYTES = 1, BY_STEPS = 2, BY_TIME = 3, BY_LAW = 4;

    private final Bar bar = new Bar();
    private final Bar trial = new Bar();
    private final Tape tape = new Tape();
    private final Law law = new Law();
    private final Order tried = new Order();
    private final Order evenest = new Order();
    private final Changes changes = new Changes();
    private final Waits waits = new Waits();
    private final Waits kept = new Waits();
    private final Steps steps = new Steps();
    private final Shelf[] shelves = new Shelf[SHELVES];
    private boolean imaged;
    // Rolling the bar and trying all orders are dear: what they gave stands until the work or the law changes.
    private boolean rolled;
    private boolean ordered;
    private int evenestOff;

    public NinetyNine() {
        for (int shelf = 0; shelf < SHELVES; shelf++) {
            shelves[shelf] = new Shelf();
        }
    }

    // ---- pieces

    public int piece(int bytes, int speed) {
        if (!Work.allows(BYTES, bytes) || !Work.allows(SPEED, speed)) {
            return BAD;
        }
        if (bar.work.count >= PIECES) {
            return FULL;
        }
        bar.work.add(bytes, speed, 0);
        forget();
        return bar.work.count - 1;
    }

    public int pieces(int shelf, int i, int n) {
        Shelf from = shelfAt(shelf);
        if (from == null || n < 1 || n > PIECES) {
            return BAD;
        }
        if (from.holds == Shelf.NOTHING) {
            return 0;
        }
        if (!from.isBytes()) {
            return OTHER_KIND;
        }
        int came = 0;
        while (came < n && pieceFrom(from, i + 3 * came)) {
            came++;
        }
        return came;
    }

    public int mend(int number, int what, int v) {
        if (!bar.work.has(number, what) || !Work.allows(what, v)) {
            return BAD;
        }
        int was = bar.work.get(number, what);
        if (was != v) {
            bar.work.set(number, what, v);
            changes.add(number, what, was, v);
            forget();
        }
        return was;
    }

    public int of(int number, int what) {
        if (what == 7) {
            return number >= 0 && number < bar.work.count ? bar.work.takes(number) : BAD;
        }
        if (what == 8) {
            return number == 0 ? bar.work.length() : BAD;
        }
        return bar.work.has(number, what) ? bar.work.get(number, what) : BAD;
    }

    public int feed(int letter) {
        if (letter < 0 || letter > 255) {
            return BAD;
        }
        return tape.add(letter) ? tape.count : FULL;
    }

    public int law() {
        int fault = tape.read();
        if (fault < 0) {
            law.take(tape);
            forget();
        }
        tape.count = 0;
        return fault < 0 ? 1 : -100 - fault;
    }

    // ---- showing

    public int showing(int t, int what) {
        if (noSecond(t) || what < 0 || what > 5) {
            return BAD;
        }
        if (what == 4) {
            return now().shownIn(t);
        }
        return what == 5 ? now().comeIn(t) : bar.centOf(what, t);
    }

    public int seconds(int cent) {
        return cent < 0 || cent > 100 ? BAD : now().secondsAt(cent);
    }

    public int standing(int what) {
        return what < 0 || what > 2 ? BAD : now().longestStand(what, bar.work.length());
    }

    public int off(int what) {
        return what < 0 || what > 2 ? BAD : now().offTruth(what);
    }

    public int remains(int t, int w) {
        int length = bar.work.length();
        if (t < 1 || t > length || w < -1 || w > 60) {
            return BAD;
        }
        return w == -1 ? length - t : now().remaining(t, w);
    }

    public int best(int what) {
        if (what < 0 || what > 2) {
            return BAD;
        }
        if (what == 2) {
            return now().guessesOff(0);
        }
        int by = 1;
        int least = now().guessesOff(by);
        for (int w = 2; w <= 60; w++) {
            int sum = bar.guessesOff(w);
            if (sum < least) {
                least = sum;
                by = w;
            }
        }
        return what == 0 ? by : least;
    }

    public int dead(int d, int what) {
        if (d < 1 || d > 999 || what < 0 || what > 2) {
            return BAD;
        }
        int second = now().deadSecond(d);
        if (second == NOT || what == 0) {
            return second;
        }
        return what == 1 ? bar.comeIn(second) : bar.work.length() - second;
    }

    public int patience() {
        return Math.max(1, now().longestStand(0, bar.work.length() - 1));
    }

    public int tea(int t, int s) {
        if (noSecond(t) || s < 1 || s > 999) {
            return BAD;
        }
        return t + s <= bar.work.length() ? 1 : 0;
    }

    // ---- orders, lies

    public int order(int k) {
        if (k < -1) {
            return BAD;
        }
        if (bar.work.count > 5) {
            return STATE;
        }
        if (k >= bar.work.count) {
            return NOT;
        }
        findEvenest();
        return k == -1 ? evenestOff : evenest.pieceAt(k);
    }

    public int told(int shelf) {
        Shelf list = shelfAt(shelf);
        if (list == null) {
            return BAD;
        }
        if (!list.isBytes()) {
            return list.noBytes();
        }
        tried.empty();
        for (int i = 0; i < list.size; i++) {
            tried.add(list.byteAt(i), bar.work.count);
        }
        tried.addOthers(bar.work.count);
        return offBy(tried);
    }

    public int where(int what) {
        if (what < 0 || what > 2) {
            return BAD;
        }
        if (bar.work.count == 0) {
            return NOT;
        }
        int place = 0;
        int least = 0;
        for (int at = 0; at < bar.work.count; at++) {
            tried.lead(bar.work.largest(), at, bar.work.count);
            int sum = offBy(tried);
            int rank = what == 2 ? trial.longestStand(0, trial.work.length()) : sum;
            if (at == 0 || rank < least) {
                least = rank;
                place = at;
            }
        }
        return what == 1 ? least : place;
    }

    public int measure(int what) {
        if (what < 0 || what > 1) {
            return BAD;
        }
        trial.work.copy(bar.work);
        int by = 0;
        int least = 0;
        for (int m = BY_FILES; m <= BY_TIME; m++) {
            trial.work.measure = m;
            trial.roll(law, 0, trial.work.length());
            int rank = what == 0 ? trial.offTruth(1) : trial.secondsAt(99);
            if (m == BY_FILES || rank < least) {
                least = rank;
                by = m;
            }
        }
        return by;
    }

    public int pleases(int what) {
        if (what < 0 || what > 1) {
            return VOID;
        }
        if (what == 0) {
            return now().pleasure();
        }
        trial.work.copy(bar.work);
        int by = 0;
        int most = 0;
        for (int smooth = 0; smooth <= 9; smooth++) {
            trial.work.smooth = smooth;
            trial.roll(law, 0, trial.work.length());
            int rank = trial.pleasure();
            if (smooth == 0 || rank > most) {
                most = rank;
                by = smooth;
            }
        }
        return by;
    }

    public int trust(int n, int what) {
        if (n < 1 || n > 20 || what < 0 || what > 1) {
            return BAD;
        }
        int change = 10 - now().offTruth(0) / 2;
        int trust = 50;
        int lostBehind = NOT;
        for (int time = 1; time <= n; time++) {
            trust = Math.max(0, Math.min(100, trust + change));
            if (trust < 20 && lostBehind == NOT) {
                lostBehind = time;
            }
        }
        return what == 0 ? trust : lostBehind;
    }

    // ---- seen

    public int judge(int shelf, int t) {
        Shelf seen = shelfAt(shelf);
        if (seen == null || noSecond(t)) {
            return BAD;
        }
        return seen.isBytes() ? now().firstUnlike(seen, t) : seen.noBytes();
    }

    public int which(int shelf, int t) {
        Shelf seen = shelfAt(shelf);
        if (seen == null || noSecond(t)) {
            return BAD;
        }
        if (!seen.isBytes()) {
            return seen.noBytes();
        }
        trial.work.copy(bar.work);
        int bits = 0;
        for (int m = BY_FILES; m <= BY_LAW; m++) {
            trial.work.measure = m;
            if (trialShows(seen, t)) {
                bits |= 1 << m;
            }
        }
        return bits;
    }

    public int since(int shelf) {
        Shelf seen = shelfAt(shelf);
        if (seen == null) {
            return BAD;
        }
        if (!seen.isBytes()) {
            return seen.noBytes();
        }
        Bar shown = now();
        for (int t = 0; t <= LAST_SECOND; t++) {
            if (shown.firstUnlike(seen, t) == NOT) {
                return t;
            }
        }
        return NOT;
    }

    public int stuck(int shelf, int t) {
        Shelf seen = shelfAt(shelf);
        if (seen == null || noSecond(t)) {
            return BAD;
        }
        if (!seen.isBytes()) {
            return seen.noBytes();
        }
        for (int piece = 0; piece < bar.work.count; piece++) {
            int least = leastToShow(piece, STUCK, seen, t);
            if (least != NOT) {
                return 100 * piece + least;
            }
        }
        return NOT;
    }

    public int speed(int shelf, int t, int piece) {
        Shelf seen = shelfAt(shelf);
        if (seen == null || noSecond(t) || !bar.work.has(piece, SPEED)) {
            return BAD;
        }
        return seen.isBytes() ? leastToShow(piece, SPEED, seen, t) : seen.noBytes();
    }

    public int drawn(int seed, int n, int d, int what) {
        if (n < 1 || n > 30 || d < 1 || d > 999 || what < 0 || what > 1) {
            return BAD;
        }
        int z = seed;
        int length = 0;
        int deaths = 0;
        for (int wait = 0; wait < n; wait++) {
            trial.work.copy(bar.work);
            z = trial.work.drawSpeeds(z);
            length += trial.work.length();
            if (what == 1) {
                trial.roll(law, 0, trial.work.length());
                deaths += trial.deadSecond(d) == NOT ? 0 : 1;
            }
        }
        return what == 0 ? length : deaths;
    }

    // ---- in deed

    public int begin() {
        if (waits.on) {
            return STATE;
        }
        waits.start();
        return bar.work.length();
    }

    public int pass(int s) {
        if (s < 1 || s > 99) {
            return BAD;
        }
        if (!waits.on) {
            return STATE;
        }
        waits.go(s);
        int cent = now().shownIn(waits.second);
        if (waits.second >= bar.work.length() && cent == 100) {
            waits.end();
        }
        return cent;
    }

    public int cancel() {
        if (!waits.on) {
            return STATE;
        }
        int lost = now().comeIn(waits.second);
        waits.breakOff(lost);
        return lost;
    }

    public int led(int what) {
        return what < 0 || what > 5 ? BAD : waits.tell(what);
    }

    public int image() {
        kept.copy(waits);
        imaged = true;
        return waits.begun;
    }

    public int back() {
        if (!imaged) {
            return STATE;
        }
        waits.copy(kept);
        return waits.begun;
    }

    public int undo() {
        if (!changes.takeBack(bar.work)) {
            return STATE;
        }
        forget();
        return changes.done;
    }

    public int redo() {
        if (!changes.doAgain(bar.work)) {
            return STATE;
        }
        forget();
        return changes.undone;
    }

    // ---- acts, shelves

    public int body(int kind) {
        if (kind < 0 || kind >= Steps.KINDS) {
            return BAD;
        }
        return steps.add(kind) ? steps.count - 1 : FULL;
    }

    public int act(int body, int act, int x) {
        return steps.run(body, act, x);
    }

    public int trace(int i) {
        return i < 0 || i >= steps.traced() ? BAD : steps.traceAt(i);
    }

    public int keep(int shelf, int body) {
        Shelf s = shelfAt(shelf);
        if (s == null || body < -1 || body >= steps.count) {
            return BAD;
        }
        s.hold(body);
        return 1;
    }

    public int row(int shelf, int sort, int n) {
        Shelf s = shelfAt(shelf);
        if (s == null || sort < 0 || sort > 4 || n > Shelf.MOST) {
            return BAD;
        }
        if (n < 0) {
            return BELOW_ZERO;
        }
        s.holdRow(sort, n);
        return 1;
    }

    public int put(int shelf, int i, long v) {
        Shelf s = shelfAt(shelf);
        if (s == null) {
            return BAD;
        }
        int refusal = s.refusal(i, 1);
        if (refusal != 0) {
            return refusal;
        }
        s.set(i, v);
        return 1;
    }

    public long element(int shelf, int i) {
        Shelf s = shelfAt(shelf);
        return s == null || s.refusal(i, 1) != 0 ? Long.MIN_VALUE : s.get(i);
    }

    public int shift(int shelf, int i, int other, int j, int n) {
        Shelf from = shelfAt(shelf);
        Shelf to = shelfAt(other);
        if (from == null || to == null) {
            return BAD;
        }
        if (from.holds == Shelf.NOTHING || to.holds == Shelf.NOTHING) {
            return NOTHING_THERE;
        }
        if (from.holds != Shelf.ROW || to.holds != Shelf.ROW || from.sort != to.sort) {
            return OTHER_KIND;
        }
        if (from.refusal(i, n) != 0 || to.refusal(j, n) != 0) {
            return NO_PLACE;
        }
        to.take(from, i, j, n);
        return n;
    }

    public int taken(int shelf, int k) {
        Shelf s = shelfAt(shelf);
        if (s == null || k < 0 || k >= Steps.KINDS) {
            return BAD;
        }
        if (s.holds == Shelf.NOTHING) {
            return NOTHING_THERE;
        }
        int kind = s.holds == Shelf.STEP ? steps.kindOf(s.body) : -1;
        return Steps.isUnder(kind, k) ? kind : OTHER_KIND;
    }

    public int count(int what) {
        switch (what) {
            case 0: return bar.work.count;
            case 1: return tape.count;
            case 2: return changes.done;
            case 3: return steps.count;
            case 4: return steps.ran;
            default: return BAD;
        }
    }

    // ---- what the calls share

    private Shelf shelfAt(int shelf) {
        return shelf >= 0 && shelf < SHELVES ? shelves[shelf] : null;
    }

    private static boolean noSecond(int t) {
        return t < 0 || t > LAST_SECOND;
    }

    private boolean pieceFrom(Shelf row, int i) {
        if (i < 0 || i > row.size - 3 || bar.work.count >= PIECES) {
            return false;
        }
        int bytes = row.byteAt(i);
        int speed = row.byteAt(i + 1);
        int stuck = row.byteAt(i + 2);
        if (!Work.allows(BYTES, bytes) || !Work.allows(SPEED, speed) || !Work.allows(STUCK, stuck)) {
            return false;
        }
        bar.work.add(bytes, speed, stuck);
        forget();
        return true;
    }

    private void forget() {
        rolled = false;
        ordered = false;
    }

    /** The bar as it is, rolled to the last second. */
    private Bar now() {
        if (!rolled) {
            bar.roll(law, 0, LAST_SECOND);
            rolled = true;
        }
        return bar;
    }

    private int offBy(Order order) {
        trial.work.arrange(bar.work, order);
        trial.roll(law, 0, trial.work.length());
        return trial.offTruth(1);
    }

    private void findEvenest() {
        if (ordered) {
            return;
        }
        tried.empty();
        tried.addOthers(bar.work.count);
        evenest.copy(tried);
        evenestOff = offBy(tried);
        // Five pieces have 120 orders.
        for (int i = 1; i < 120 && tried.toNext(); i++) {
            int sum = offBy(tried);
            if (sum < evenestOff) {
                evenestOff = sum;
                evenest.copy(tried);
            }
        }
        ordered = true;
    }

    private boolean trialShows(Shelf seen, int t) {
        int end = t + seen.size - 1;
        if (end > LAST_SECOND) {
            return false;
        }
        trial.roll(law, trial.looksBack(law) ? 0 : t, end);
        return trial.firstUnlike(seen, t) == NOT;
    }

    private int leastToShow(int piece, int what, Shelf seen, int t) {
        trial.work.copy(bar.work);
        int most = Work.most(what);
        for (int v = Work.least(what); v <= most; v++) {
            trial.work.set(piece, what, v);
            if (trialShows(seen, t)) {
                return v;
            }
        }
        return NOT;
    }

    /** The pieces, and the settings by which a bar shows them. */
    private static final class Work {
        private static final int[] LEAST = {1, 1, 0, 0, 0, 0, 0};
        private static final int[] MOST = {99, 9, 60, 9, 4, 9, 1};

        int count;
        int measure = BY_BYTES;
        int smooth;
        int never;
        private final int[] bytes = new int[PIECES];
        private final int[] speed = new int[PIECES];
        private final int[] stuck = new int[PIECES];
        private final int[] files = new int[PIECES];

        static boolean allows(int what, int v) {
            return v >= least(what) && v <= most(what);
        }

        static int least(int what) {
            return what >= 0 && what < LEAST.length ? LEAST[what] : 0;
        }

        static int most(int what) {
            return what >= 0 && what < MOST.length ? MOST[what] : -1;
        }

        private boolean lacks(int piece) {
            return piece < 0 || piece >= count || piece >= PIECES;
        }

        /** Whether a piece has such a number, or the bar, which is number 0, such a setting. */
        boolean has(int number, int what) {
            if (what < BYTES || what > NEVER) {
                return false;
            }
            return what < MEASURE ? !lacks(number) : number == 0;
        }

        int get(int number, int what) {
            switch (what) {
                case BYTES: return lacks(number) ? 0 : bytes[number];
                case SPEED: return lacks(number) ? 0 : speed[number];
                case STUCK: return lacks(number) ? 0 : stuck[number];
                case FILES: return lacks(number) ? 0 : files[number];
                case MEASURE: return measure;
                case SMOOTH: return smooth;
                default: return never;
            }
        }

        void set(int number, int what, int v) {
            if (what == MEASURE) {
                measure = v;
            } else if (what == SMOOTH) {
                smooth = v;
            } else if (what == NEVER) {
                never = v;
            } else {
                setOfPiece(number, what, v);
            }
        }

        private void setOfPiece(int piece, int what, int v) {
            if (lacks(piece)) {
                return;
            }
            if (what == BYTES) {
                bytes[piece] = v;
            } else if (what == SPEED) {
                speed[piece] = v;
            } else if (what == STUCK) {
                stuck[piece] = v;
            } else if (what == FILES) {
                files[piece] = v;
            }
        }

        void add(int itsBytes, int itsSpeed, int itsStuck) {
            if (count < 0 || count >= PIECES) {
                return;
            }
            bytes[count] = itsBytes;
            speed[count] = itsSpeed;
            stuck[count] = itsStuck;
            files[count] = 1;
            count++;
        }

        int takes(int piece) {
            if (lacks(piece) || speed[piece] < 1) {
                return 0;
            }
            return stuck[piece] + (bytes[piece] + speed[piece] - 1) / speed[piece];
        }

        int length() {
            int sum = 0;
            for (int piece = 0; piece < count; piece++) {
                sum += takes(piece);
            }
            return sum;
        }

        int allBytes() {
            int sum = 0;
            for (int piece = 0; piece < count && piece < PIECES; piece++) {
                sum += bytes[piece];
            }
            return sum;
        }

        int allFiles() {
            int sum = 0;
            for (int piece = 0; piece < count && piece < PIECES; piece++) {
                sum += files[piece];
            }
            return sum;
        }

        /** The bytes of a piece that have come by one of its own seconds. */
        int part(int piece, int second) {
            if (lacks(piece) || second <= stuck[piece]) {
                return 0;
            }
            return Math.min(bytes[piece], speed[piece] * (second - stuck[piece]));
        }

        int largest() {
            int largest = 0;
            for (int piece = 1; piece < count && piece < PIECES; piece++) {
                if (bytes[piece] > bytes[largest]) {
                    largest = piece;
                }
            }
            return largest;
        }

        void copy(Work other) {
            copySettings(other);
            for (int piece = 0; piece < count; piece++) {
                copyPiece(piece, other, piece);
            }
        }

        /** The other work with its pieces in an order. */
        void arrange(Work other, Order order) {
            copySettings(other);
            for (int k = 0; k < count; k++) {
                copyPiece(k, other, order.pieceAt(k));
            }
        }

        private void copySettings(Work other) {
            count = other.count;
            measure = other.measure;
            smooth = other.smooth;
            never = other.never;
        }

        private void copyPiece(int piece, Work other, int its) {
            if (lacks(piece) || other.lacks(its)) {
                return;
            }
            bytes[piece] = other.bytes[its];
            speed[piece] = other.speed[its];
            stuck[piece] = other.stuck[its];
            files[piece] = other.files[its];
        }

        /** One wait's draw of all speeds; the answer is the seed for the next. */
        int drawSpeeds(int seed) {
            int z = seed;
            for (int piece = 0; piece < count && piece < PIECES; piece++) {
                z = z * 1103515245 + 12345;
                int draw = (z >>> 8) % 4;
                if (draw == 0) {
                    speed[piece] = Math.max(1, speed[piece] / 2);
                } else if (draw == 3) {
                    speed[piece] *= 2;
                }
            }
            return z;
        }
    }

    /** Where a work stands in a second. It goes forward only, so that all seconds together cost one way through. */
    private static final class Walk {
        int come;
        int filesCent;
        int bytesCent;
        int stepsCent;
        int timeCent;
        int pieces;
        private int done;
        private int begin;
        private int end;
        private int bytesDone;
        private int filesDone;
        private int allBytes;
        private int allFiles;
        private int length;

        void start(Work work) {
            pieces = work.count;
            done = 0;
            begin = 0;
            end = work.takes(0);
            bytesDone = 0;
            filesDone = 0;
            allBytes = work.allBytes();
            allFiles = work.allFiles();
            length = work.length();
        }

        void go(Work work, int t) {
            for (; done < pieces && t >= end; done++) {
                bytesDone += work.get(done, BYTES);
                filesDone += work.get(done, FILES);
                begin = end;
                end += work.takes(done + 1);
            }
            come = bytesDone + work.part(done, t - begin);
            filesCent = share(filesDone, allFiles);
            bytesCent = share(come, allBytes);
            stepsCent = share(done, pieces);
            timeCent = truth(t, length);
        }

        int cent(int measure) {
            switch (measure) {
                case BY_FILES: return filesCent;
                case BY_STEPS: return stepsCent;
                case BY_TIME: return timeCent;
                default: return bytesCent;
            }
        }

        static int truth(int t, int length) {
            return t >= length ? 100 : share(t, length);
        }

        private static int share(int part, int all) {
            return all < 1 ? 100 : part * 100 / all;
        }
    }

    /** What a work shows, second by second. */
    private static final class Bar {
        final Work work = new Work();
        private final Walk walk = new Walk();
        private final int[] come = new int[SECONDS];
        private final int[] shown = new int[SECONDS];
        private int length;
        private int allBytes;

        /** Whether what is shown in a second hangs on the second ahead. */
        boolean looksBack(Law law) {
            return work.never == 1 || work.smooth > 0 || work.measure == BY_LAW && law.looksBack;
        }

        void roll(Law law, int from, int last) {
            length = work.length();
            allBytes = work.allBytes();
            walk.start(work);
            int ahead = 0;
            for (int t = Math.max(0, from); t <= last && t < SECONDS; t++) {
                walk.go(work, t);
                int cent = work.measure == BY_LAW ? law.value(walk, ahead) : walk.cent(work.measure);
                ahead = lied(cent, ahead);
                come[t] = walk.come;
                shown[t] = ahead;
            }
        }

        private int lied(int cent, int ahead) {
            int shows = cent < 0 ? 0 : cent > 100 ? 100 : cent;
            if (work.never == 1 && shows < ahead) {
                shows = ahead;
            }
            if (work.smooth > 0 && shows > ahead + work.smooth) {
                shows = ahead + work.smooth;
            }
            return shows;
        }

        int shownIn(int t) {
            return t >= 0 && t < SECONDS ? shown[t] : 0;
        }

        int comeIn(int t) {
            return t >= 0 && t < SECONDS ? come[t] : 0;
        }

        int centOf(int measure, int t) {
            walk.start(work);
            walk.go(work, t);
            return walk.cent(measure);
        }

        int secondsAt(int cent) {
            int sum = 0;
            for (int t = 0; t <= length && t < SECONDS; t++) {
                sum += shown[t] == cent ? 1 : 0;
            }
            return sum;
        }

        /** The longest stand up to a second: how many seconds (0), from which on (1), at which per cent (2). */
        int longestStand(int what, int last) {
            int most = 0;
            int first = 0;
            int from = 0;
            for (int t = 0; t <= last && t < SECONDS; t++) {
                if (t > 0 && shown[t] != shown[t - 1]) {
                    from = t;
                }
                if (t - from + 1 > most) {
                    most = t - from + 1;
                    first = from;
                }
            }
            if (what == 0) {
                return most;
            }
            return what == 1 ? first : shownIn(first);
        }

        /** How far from the truth: the greatest (0), the sum (1), the second of the greatest (2). */
        int offTruth(int what) {
            int greatest = 0;
            int sum = 0;
            int worst = 0;
            for (int t = 0; t <= length && t < SECONDS; t++) {
                int off = Math.abs(shown[t] - Walk.truth(t, length));
                sum += off;
                if (off > greatest) {
                    greatest = off;
                    worst = t;
                }
            }
            if (what == 0) {
                return greatest;
            }
            return what == 1 ? sum : worst;
        }

        /** Seconds remaining by the last w seconds; by the whole if w is 0. */
        int remaining(int t, int w) {
            int span = w == 0 ? t : Math.min(t, w);
            int came = comeIn(t) - comeIn(t - span);
            if (came < 1) {
                return NOT;
            }
            int lack = allBytes - comeIn(t);
            return (span * lack + came - 1) / came;
        }

        int guessesOff(int w) {
            int sum = 0;
            for (int t = 1; t <= length && t < SECONDS; t++) {
                int guess = remaining(t, w);
                sum += guess == NOT ? 999 : Math.min(999, Math.abs(guess - (length - t)));
            }
            return sum;
        }

        int deadSecond(int d) {
            int same = 0;
            for (int t = 1; t < length && t < SECONDS; t++) {
                same = shown[t] == shown[t - 1] ? same + 1 : 0;
                if (same >= d) {
                    return t;
                }
            }
            return NOT;
        }

        int pleasure() {
            int sum = 0;
            for (int t = 1; t <= length && t < SECONDS; t++) {
                sum += (shown[t] - shown[t - 1]) * t;
            }
            return sum;
        }

        int firstUnlike(Shelf seen, int t) {
            for (int i = 0; i < seen.size; i++) {
                if (t + i > LAST_SECOND || shownIn(t + i) != seen.byteAt(i)) {
                    return i;
                }
            }
            return NOT;
        }
    }

    /** Pieces one behind the other, each at most once. */
    private static final class Order {
        private final int[] row = new int[PIECES];
        private int count;

        int pieceAt(int k) {
            return k >= 0 && k < count && k < PIECES ? row[k] : 0;
        }

        void empty() {
            count = 0;
        }

        void copy(Order other) {
            count = other.count;
            for (int k = 0; k < count && k < PIECES; k++) {
                row[k] = other.row[k];
            }
        }

        void add(int piece, int pieces) {
            if (piece >= 0 && piece < pieces && count < PIECES && !has(piece)) {
                row[count] = piece;
                count++;
            }
        }

        private boolean has(int piece) {
            for (int k = 0; k < count && k < PIECES; k++) {
                if (row[k] == piece) {
                    return true;
                }
            }
            return false;
        }

        void addOthers(int pieces) {
            for (int piece = 0; piece < pieces; piece++) {
                add(piece, pieces);
            }
        }

        /** One piece at a place, the others by numbers. */
        void lead(int piece, int place, int pieces) {
            count = 0;
            for (int other = 0; other < pieces; other++) {
                if (count == place) {
                    add(piece, pieces);
                }
                if (other != piece) {
                    add(other, pieces);
                }
            }
            add(piece, pieces);
        }

        /** The order that follows by numbers; false if this was the last. */
        boolean toNext() {
            int last = Math.min(count, PIECES) - 1;
            int turn = last - 1;
            while (turn >= 0 && row[turn] > row[turn + 1]) {
                turn--;
            }
            if (turn < 0) {
                return false;
            }
            int behind = last;
            while (behind > turn && row[behind] < row[turn]) {
                behind--;
            }
            swap(turn, behind);
            for (int low = turn + 1, high = last; low < high; low++, high--) {
                swap(low, high);
            }
            return true;
        }

        private void swap(int a, int b) {
            if (a < 0 || a >= PIECES || b < 0 || b >= PIECES) {
                return;
            }
            int piece = row[a];
            row[a] = row[b];
            row[b] = piece;
        }
    }

    /** The bytes that were fed, and how they read as a text: code in which what is joined stands ahead of its sign. */
    private static final class Tape {
        static final int MOST = 120;
        // Each byte gives one code at most, and the end of the last line one more.
        static final int MOST_CODE = MOST + 1;
        // Codes below are numbers; the others are this and the sign or the name.
        static final int SIGN = 10000;
        static final int NEGATED = SIGN + '~';
        static final int CONDITION = SIGN + '?';
        static final int LINE_END = SIGN + ';';
        private static final int OPEN_AT_ONCE = 6;
        private static final int LEVELS = 5;
        private static final int COMPARED = 2;

        int count;
        int size;
        private final int[] letters = new int[MOST];
        private final int[] code = new int[MOST_CODE];
        private int place;

        boolean add(int letter) {
            if (count < 0 || count >= MOST) {
                return false;
            }
            letters[count] = letter;
            count++;
            return true;
        }

        int codeAt(int i) {
            return i >= 0 && i < size && i < MOST_CODE ? code[i] : 0;
        }

        /** The place of the fault; -1 if the tape is a text. */
        int read() {
            place = 0;
            size = 0;
            boolean good = readLine();
            for (int line = 1; line < MOST && good && place < count; line++) {
                good = accept(';') && readLine();
            }
            return good ? -1 : place;
        }

        private boolean readLine() {
            if (!readLevel(0, 0)) {
                return false;
            }
            if (accept('?')) {
                emit(CONDITION);
                if (!readLevel(0, 0)) {
                    return false;
                }
            }
            emit(LINE_END);
            return true;
        }

        /** Level 0 is joined by |, 1 by &, 2 compared, 3 a sum, 4 a product; an operand stands below them all. */
        private boolean readLevel(int level, int open) {
            if (level >= LEVELS) {
                return readOperand(open);
            }
            if (!readLevel(level + 1, open)) {
                return false;
            }
            int most = level == COMPARED ? 1 : MOST;
            for (int i = 0; i < most && joins(level, letter()); i++) {
                int sign = letter();
                place++;
                if (!readLevel(level + 1, open)) {
                    return false;
                }
                emit(SIGN + sign);
            }
            return true;
        }

        private boolean readOperand(int open) {
            int letter = letter();
            if (isDigit(letter)) {
                readNumber();
                return true;
            }
            if (isName(letter)) {
                place++;
                emit(SIGN + letter);
                return true;
            }
            if (letter != '(' && letter != '!' && letter != '-' || open >= OPEN_AT_ONCE) {
                return false;
            }
            place++;
            if (letter == '(') {
                return readLevel(0, open + 1) && accept(')');
            }
            if (!readOperand(open + 1)) {
                return false;
            }
            emit(letter == '-' ? NEGATED : SIGN + '!');
            return true;
        }

        private void readNumber() {
            int number = 0;
            for (int i = 0; i < 4 && isDigit(letter()); i++) {
                number = number * 10 + letter() - '0';
                place++;
            }
            emit(number);
        }

        /** The byte at the place; -1 behind the last. */
        private int letter() {
            return place >= 0 && place < count && place < MOST ? letters[place] : -1;
        }

        private boolean accept(int letter) {
            if (letter() != letter) {
                return false;
            }
            place++;
            return true;
        }

        private void emit(int c) {
            if (size >= 0 && size < MOST_CODE) {
                code[size] = c;
                size++;
            }
        }

        private static boolean isDigit(int letter) {
            return letter >= '0' && letter <= '9';
        }

        private static boolean isName(int letter) {
            return letter == 'b' || letter == 'f' || letter == 's' || letter == 't' || letter == 'l' || letter == 'n';
        }

        private static boolean joins(int level, int letter) {
            switch (level) {
                case 0: return letter == '|';
                case 1: return letter == '&';
                case COMPARED: return letter == '<' || letter == '=' || letter == '>';
                case 3: return letter == '+' || letter == '-';
                default: return letter == '*' || letter == '/' || letter == '%';
            }
        }
    }

    /** The law by which a bar may be told. */
    private static final class Law {
        // Six open at once, in each five signs that still want their right side, and one value.
        private static final int DEPTH = 64;

        boolean looksBack;
        private boolean hasText;
        private final int[] code = new int[Tape.MOST_CODE];
        private int size;
        private final int[] stack = new int[DEPTH];
        private int top;

        void take(Tape tape) {
            hasText = true;
            looksBack = false;
            size = Math.min(tape.size, Tape.MOST_CODE);
            for (int i = 0; i < size; i++) {
                code[i] = tape.codeAt(i);
                looksBack = looksBack || code[i] == Tape.SIGN + 'l';
            }
        }

        /** What the text gives where a walk stands, if the bar showed so much the second ahead; not yet a per cent. */
        int value(Walk at, int ahead) {
            if (!hasText) {
                return at.bytesCent;
            }
            top = 0;
            boolean passesOver = false;
            for (int i = 0; i < size && i < Tape.MOST_CODE; i++) {
                int c = code[i];
                if (passesOver) {
                    passesOver = c != Tape.LINE_END;
                } else if (c == Tape.LINE_END) {
                    return pop();
                } else if (c == Tape.CONDITION) {
                    passesOver = pop() == 0;
                } else {
                    push(c < Tape.SIGN ? c : worth(c - Tape.SIGN, at, ahead));
                }
            }
            return 0;
        }

        private int worth(int sign, Walk at, int ahead) {
            switch (sign) {
                case 'b': return at.bytesCent;
                case 'f': return at.filesCent;
                case 's': return at.stepsCent;
                case 't': return at.timeCent;
                case 'l': return ahead;
                case 'n': return at.pieces;
                case '!': return pop() == 0 ? 1 : 0;
                case '~': return -pop();
                default: return joined(sign, pop(), pop());
            }
        }

        private static int joined(int sign, int right, int left) {
            switch (sign) {
                case '|': return left != 0 || right != 0 ? 1 : 0;
                case '&': return left != 0 && right != 0 ? 1 : 0;
                case '<': return left < right ? 1 : 0;
                case '=': return left == right ? 1 : 0;
                case '>': return left > right ? 1 : 0;
                case '+': return left + right;
                case '-': return left - right;
                case '*': return left * right;
                case '/': return right == 0 ? 0 : left / right;
                default: return right == 0 ? 0 : left % right;
            }
        }

        private void push(int v) {
            if (top >= 0 && top < DEPTH) {
                stack[top] = v;
                top++;
            }
        }

        private int pop() {
            if (top < 1 || top > DEPTH) {
                return 0;
            }
            top--;
            return stack[top];
        }
    }

    /** The changes that can be undone, and right behind them those that can be done again. */
    private static final class Changes {
        private static final int MOST = 40;

        int done;
        int undone;
        private final int[] number = new int[MOST];
        private final int[] what = new int[MOST];
        private final int[] before = new int[MOST];
        private final int[] behind = new int[MOST];

        void add(int itsNumber, int itsWhat, int was, int is) {
            if (done >= MOST) {
                dropOldest();
            }
            if (done >= 0 && done < MOST) {
                number[done] = itsNumber;
                what[done] = itsWhat;
                before[done] = was;
                behind[done] = is;
                done++;
            }
            undone = 0;
        }

        private void dropOldest() {
            for (int i = 1; i < MOST; i++) {
                number[i - 1] = number[i];
                what[i - 1] = what[i];
                before[i - 1] = before[i];
                behind[i - 1] = behind[i];
            }
            done = MOST - 1;
        }

        boolean takeBack(Work work) {
            if (done < 1 || done > MOST) {
                return false;
            }
            done--;
            undone++;
            work.set(number[done], what[done], before[done]);
            return true;
        }

        boolean doAgain(Work work) {
            if (undone < 1 || done < 0 || done >= MOST) {
                return false;
            }
            work.set(number[done], what[done], behind[done]);
            done++;
            undone--;
            return true;
        }
    }

    /** The wait that is on, and what was led of all of them. */
    private static final class Waits {
        boolean on;
        int second;
        int begun;
        private int ended;
        private int cancelled;
        private int passed;
        private int lost;

        void start() {
            on = true;
            second = 0;
            begun++;
        }

        void go(int s) {
            int seconds = Math.min(s, LAST_SECOND - second);
            second += seconds;
            passed += seconds;
        }

        void end() {
            on = false;
            ended++;
        }

        void breakOff(int bytes) {
            on = false;
            cancelled++;
            lost += bytes;
        }

        int tell(int what) {
            switch (what) {
                case 0: return begun;
                case 1: return ended;
                case 2: return cancelled;
                case 3: return passed;
                case 4: return lost;
                default: return on ? second : NOT;
            }
        }

        void copy(Waits other) {
            on = other.on;
            second = other.second;
            begun = other.begun;
            ended = other.ended;
            cancelled = other.cancelled;
            passed = other.passed;
            lost = other.lost;
        }
    }

    /** The bodies, and their acts: each by its own kind, or by the next kind above that has one. */
    private static final class Steps {
        static final int KINDS = 8;
        private static final int MOST = 50;
        private static final int MOST_TRACED = 24;
        private static final int ACTS = 4;
        private static final int FILLS = 0, SHOWS = 1, STANDS = 2, TELLS = 3;
        // Eight kinds, none of whose acts asks for itself again: more calls than this never stand open at once.
        private static final int DEEPEST = 40;
        private static final int[] ABOVE = {-1, 0, 0, 2, 1, 3, 0, 4};
        // A line a kind, a column an act; 0: none of its own. What STEP has of its interfaces stands with STEP.
        private static final int[] BODY_OF = {
            1, 10, 11, 2,
            20, 0, 0, 0,
            0, 30, 0, 0,
            0, 41, 40, 0,
            0, 0, 50, 0,
            0, 0, 0, 60,
            70, 0, 0, 0,
            0, 80, 0, 81,
        };

        int count;
        int ran;
        private final int[] kinds = new int[MOST];
        private final int[] trace = new int[MOST_TRACED];
        private int self;

        boolean add(int kind) {
            if (count < 0 || count >= MOST) {
                return false;
            }
            kinds[count] = kind;
            count++;
            return true;
        }

        int kindOf(int step) {
            return step >= 0 && step < count && step < MOST ? kinds[step] : -1;
        }

        static boolean isUnder(int kind, int top) {
            int above = kind;
            for (int i = 0; i < KINDS && above != top; i++) {
                above = kindAbove(above);
            }
            return above == top;
        }

        private static int kindAbove(int kind) {
            return kind >= 0 && kind < KINDS ? ABOVE[kind] : -1;
        }

        int traced() {
            return Math.min(ran, MOST_TRACED);
        }

        int traceAt(int i) {
            return i >= 0 && i < MOST_TRACED ? trace[i] : 0;
        }

        int run(int step, int act, int x) {
            ran = 0;
            if (kindOf(step) < 0 || act < 0 || act >= ACTS) {
                return 0;
            }
            self = step;
            return own(act, x, 0);
        }

        private int own(int act, int x, int depth) {
            return from(kindOf(self), act, x, depth);
        }

        /** The act by its body in a kind, or in the next kind above that has one. */
        private int from(int kind, int act, int x, int depth) {
            int owner = kind;
            for (int i = 0; i < KINDS && bodyIn(owner, act) == 0; i++) {
                owner = kindAbove(owner);
            }
            int body = bodyIn(owner, act);
            if (body == 0 || depth >= DEEPEST) {
                return 0;
            }
            note(body);
            return does(body, kindAbove(owner), x, depth + 1);
        }

        private static int bodyIn(int kind, int act) {
            return kind >= 0 && kind < KINDS && act >= 0 && act < ACTS ? BODY_OF[kind * ACTS + act] : 0;
        }

        private void note(int body) {
            if (ran >= 0 && ran < MOST_TRACED) {
                trace[ran] = body;
            }
            ran++;
        }

        private int does(int body, int above, int x, int depth) {
            switch (body) {
                case 1: return x + self;
                case 2: return own(SHOWS, x, depth) - own(STANDS, 1, depth);
                case 10: return own(FILLS, x, depth) * 2;
                case 11: return x ^ self;
                case 20: return from(above, FILLS, x, depth) + 3;
                case 30: return -from(above, SHOWS, x, depth);
                case 40: return from(above, STANDS, x, depth) * 3;
                case 41: return from(above, SHOWS, x + 1, depth);
                case 50: return from(above, STANDS, x, depth) - own(FILLS, 2, depth);
                case 60: return from(above, TELLS, x, depth) ^ 5;
                case 70: return from(above, FILLS, x, depth) * 2;
                case 80: return from(above, SHOWS, x, depth) + own(STANDS, 2, depth);
                case 81: return from(above, TELLS, x, depth) - 1;
                default: return 0;
            }
        }
    }

    /** A shelf: it holds nothing, a step, or a row. */
    private static final class Shelf {
        static final int MOST = 60;
        static final int NOTHING = 0, STEP = 1, ROW = 2;
        private static final int BYTE_SORT = 0, SHORT_SORT = 1, INT_SORT = 2, LONG_SORT = 3;

        int holds;
        int body;
        int sort;
        int size;
        private final long[] cells = new long[MOST];

        void hold(int step) {
            holds = step < 0 ? NOTHING : STEP;
            body = step;
        }

        void holdRow(int itsSort, int n) {
            holds = ROW;
            sort = itsSort;
            size = n;
            for (int i = 0; i < MOST; i++) {
                cells[i] = 0;
            }
        }

        boolean isBytes() {
            return holds == ROW && sort == BYTE_SORT;
        }

        /** Why a shelf on which no row of bytes is gives none. */
        int noBytes() {
            return holds == NOTHING ? NOTHING_THERE : OTHER_KIND;
        }

        /** Why n elements from a place on can't be had; 0 if they can. */
        int refusal(int i, int n) {
            if (holds != ROW) {
                return holds == NOTHING ? NOTHING_THERE : OTHER_KIND;
            }
            return i < 0 || n < 0 || n > size || i > size - n ? NO_PLACE : 0;
        }

        long get(int i) {
            return i >= 0 && i < MOST ? cells[i] : 0;
        }

        int byteAt(int i) {
            return (int) get(i);
        }

        void set(int i, long v) {
            if (i >= 0 && i < MOST) {
                cells[i] = lowest(v);
            }
        }

        private long lowest(long v) {
            switch (sort) {
                case BYTE_SORT: return (byte) v;
                case SHORT_SORT: return (short) v;
                case INT_SORT: return (int) v;
                case LONG_SORT: return v;
                default: return v != 0 ? 1 : 0;
            }
        }

        /** Elements of a row, as they were before any of them came: so the way through goes away from the overlap. */
        void take(Shelf from, int i, int j, int n) {
            for (int k = 0; k < n; k++) {
                int at = i < j ? n - 1 - k : k;
                set(j + at, from.get(i + at));
            }
        }
    }
}
