/** STEPS in the terms' fifth part, and promises 37 to 39: bodies, acts, the trace. */
final class EdgesOfActs {
    private static final int MIN = Integer.MIN_VALUE;
    private static final int MAX = Integer.MAX_VALUE;
    private static final int STEP = 0, FILE = 1, BYTE = 2, WHEEL = 3, LIE = 4, TEA = 5, CANCEL = 6, CENT = 7;
    private static final int FILLS = 0, SHOWS = 1, STANDS = 2, TELLS = 3;
    private final Sentences s;

    private EdgesOfActs(Sentences s) {
        this.s = s;
    }

    static void ask(Sentences s) {
        EdgesOfActs edges = new EdgesOfActs(s);
        edges.kinds();
        edges.acts();
        edges.bodiesOfActs();
        edges.ownAndSuper();
        edges.trace();
        edges.promises();
    }

    /** A bar whose body n is of a kind; those ahead of it are of another. */
    private static NinetyNine with(int kind, int n) {
        NinetyNine x = new NinetyNine();
        for (int other = 0; other < n; other++) {
            x.body((kind + 1) % 8);
        }
        x.body(kind);
        return x;
    }

    private void runs(NinetyNine x, int n, int act, int with, int due, int... bodies) {
        String call = "act(" + n + ", " + act + ", " + with + ")";
        s.due(call, x.act(n, act, with), due);
        s.due(call + ": how many ran", x.count(4), bodies.length);
        for (int i = 0; i < bodies.length; i++) {
            s.due(call + ": trace(" + i + ")", x.trace(i), bodies[i]);
        }
        s.due(call + ": no more", x.trace(bodies.length), -1);
    }

    private void kinds() {
        s.says("STEPS' ways are kept by call as BODIES 0 .. 49, of KINDS: 0 STEP; 1 FILE under STEP; 2 BYTE under STEP; "
            + "3 WHEEL under BYTE; 4 LIE under FILE; 5 TEA under WHEEL; 6 CANCEL under STEP; 7 CENT under LIE.");
        int[][] under = {{STEP}, {FILE, STEP}, {BYTE, STEP}, {WHEEL, BYTE, STEP}, {LIE, FILE, STEP}, {TEA, WHEEL, BYTE, STEP},
            {CANCEL, STEP}, {CENT, LIE, FILE, STEP}};
        NinetyNine x = new NinetyNine();
        for (int n = 0; n <= 49; n++) {
            s.due("BODY " + n, x.body(n % 8), n);
            x.keep(0, n);
            for (int k = 0; k <= 7; k++) {
                boolean is = false;
                for (int kind : under[n % 8]) {
                    is |= kind == k;
                }
                s.due("BODY " + n + " for KIND " + k, x.taken(0, k), is ? n % 8 : -12);
            }
        }
        s.due("no BODY 50", x.body(0), -3);
        s.due("fifty", x.count(3), 50);
        s.due("no BODY 50 can be kept", x.keep(0, 50), -1);
        s.due("nor act", x.act(50, 0, 1), 0);
    }

    private void acts() {
        s.says("ACTS with x (an int that wraps): 0 fills, 1 shows, 2 stands, 3 tells; n its number.");
        NinetyNine x = with(STEP, 49);
        runs(x, 49, FILLS, 1, 50, 1);
        runs(x, 49, SHOWS, 1, 100, 10, 1);
        runs(x, 49, STANDS, 1, 48, 11);
        runs(x, 49, TELLS, 1, 100 - 48, 2, 10, 1, 11);
        runs(x, 49, FILLS, MAX, MIN + 48, 1);
        runs(x, 49, FILLS, MAX - 49, MAX, 1);
        runs(x, 49, FILLS, MAX - 48, MIN, 1);
        runs(x, 49, FILLS, MIN, MIN + 49, 1);
        runs(x, 49, SHOWS, MAX, 96, 10, 1);
        runs(x, 49, STANDS, MIN, MIN + 49, 11);
        runs(x, 49, STANDS, -1, -50, 11);
        runs(x, 49, TELLS, MAX, 96 - 48, 2, 10, 1, 11);
    }

    private void bodiesOfActs() {
        s.says("BODIES of acts: FILLS (an interface of STEP): 1 fills: x + n.");
        runs(with(STEP, 0), 0, FILLS, 5, 5, 1);
        runs(with(STEP, 3), 3, FILLS, 5, 8, 1);
        runs(with(STEP, 3), 3, FILLS, -5, -2, 1);
        runs(with(BYTE, 3), 3, FILLS, 5, 8, 1);
        s.says("STEP: 10 shows: fills(x) * 2.");
        runs(with(STEP, 3), 3, SHOWS, 5, 16, 10, 1);
        runs(with(STEP, 0), 0, SHOWS, 1 << 30, MIN, 10, 1);
        s.says("11 stands: x ^ n.");
        runs(with(STEP, 3), 3, STANDS, 5, 6, 11);
        runs(with(FILE, 3), 3, STANDS, 5, 6, 11);
        s.says("TELLS (of STEP): 2 tells: shows(x) - stands(1).");
        runs(with(STEP, 3), 3, TELLS, 5, 16 - 2, 2, 10, 1, 11);
        runs(with(STEP, 2), 2, TELLS, (1 << 30) - 2, MIN - 3, 2, 10, 1, 11);
        s.says("FILE: 20 fills: super.fills(x) + 3.");
        runs(with(FILE, 3), 3, FILLS, 5, 11, 20, 1);
        runs(with(FILE, 0), 0, FILLS, MAX - 2, MIN, 20, 1);
        s.says("BYTE: 30 shows: -super.shows(x).");
        runs(with(BYTE, 3), 3, SHOWS, 5, -16, 30, 10, 1);
        runs(with(BYTE, 0), 0, SHOWS, 1 << 30, MIN, 30, 10, 1);
        s.says("WHEEL: 40 stands: super.stands(x) * 3.");
        runs(with(WHEEL, 3), 3, STANDS, 5, 18, 40, 11);
        runs(with(WHEEL, 0), 0, STANDS, MAX, MAX - 2, 40, 11);
        s.says("41 shows: super.shows(x + 1).");
        runs(with(WHEEL, 3), 3, SHOWS, 5, -18, 41, 30, 10, 1);
        runs(with(WHEEL, 0), 0, SHOWS, MAX, 0, 41, 30, 10, 1);
        s.says("LIE: 50 stands: super.stands(x) - fills(2).");
        runs(with(LIE, 3), 3, STANDS, 5, 6 - 8, 50, 11, 20, 1);
        runs(with(LIE, 0), 0, STANDS, MIN, MAX - 4, 50, 11, 20, 1);
        s.says("TEA: 60 tells: super.tells(x) ^ 5.");
        runs(with(TEA, 3), 3, TELLS, 5, (-18 - 6) ^ 5, 60, 2, 41, 30, 10, 1, 40, 11);
        s.says("CANCEL: 70 fills: super.fills(x) * 2.");
        runs(with(CANCEL, 3), 3, FILLS, 5, 16, 70, 1);
        runs(with(CANCEL, 0), 0, FILLS, 1 << 30, MIN, 70, 1);
        s.says("CENT: 80 shows: super.shows(x) + stands(2).");
        // n is 3: fills(5) 11; stands(2) is (2 ^ 3) - fills(2), 1 - 8.
        runs(with(CENT, 3), 3, SHOWS, 5, 22 - 7, 80, 10, 20, 1, 50, 11, 20, 1);
        s.says("81 tells: super.tells(x) - 1.");
        // stands(1) is (1 ^ 3) - 8.
        runs(with(CENT, 3), 3, TELLS, 5, 15 + 6 - 1, 81, 2, 80, 10, 20, 1, 50, 11, 20, 1, 50, 11, 20, 1);
    }

    private void ownAndSuper() {
        s.says("fills(..) and so on: the body of its own KIND, or of the next KIND above that has one; super: from the KIND above the "
            + "body's on.");
        // shows is STEP's, the fills that it asks for that of its own KIND.
        runs(with(FILE, 3), 3, SHOWS, 5, 22, 10, 20, 1);
        runs(with(LIE, 3), 3, SHOWS, 5, 22, 10, 20, 1);
        runs(with(CANCEL, 3), 3, SHOWS, 5, 32, 10, 70, 1);
        // The next KIND above: FILE's for LIE and CENT, WHEEL's for TEA, LIE's for CENT.
        runs(with(LIE, 3), 3, FILLS, 5, 11, 20, 1);
        runs(with(CENT, 3), 3, FILLS, 5, 11, 20, 1);
        runs(with(WHEEL, 3), 3, FILLS, 5, 8, 1);
        runs(with(TEA, 3), 3, FILLS, 5, 8, 1);
        runs(with(TEA, 3), 3, SHOWS, 5, -18, 41, 30, 10, 1);
        runs(with(TEA, 3), 3, STANDS, 5, 18, 40, 11);
        runs(with(CENT, 3), 3, STANDS, 5, 6 - 8, 50, 11, 20, 1);
        runs(with(BYTE, 3), 3, STANDS, 5, 6, 11);
        runs(with(CANCEL, 3), 3, STANDS, 5, 6, 11);
        // tells is that of TELLS, what it asks for that of its own KIND.
        runs(with(FILE, 3), 3, TELLS, 5, 22 - 2, 2, 10, 20, 1, 11);
        runs(with(BYTE, 3), 3, TELLS, 5, -16 - 2, 2, 30, 10, 1, 11);
        runs(with(WHEEL, 3), 3, TELLS, 5, -18 - 6, 2, 41, 30, 10, 1, 40, 11);
        runs(with(LIE, 3), 3, TELLS, 5, 22 + 6, 2, 10, 20, 1, 50, 11, 20, 1);
        runs(with(CANCEL, 3), 3, TELLS, 5, 32 - 2, 2, 10, 70, 1, 11);
    }

    private void trace() {
        s.says("THE TRACE: numbers of the bodies that ran in the latest act(), as they began; the first 24 are kept.");
        NinetyNine x = with(CENT, 3);
        s.due("none ran yet", x.trace(0), -1);
        s.due("none ran yet: how many", x.count(4), 0);
        runs(x, 3, TELLS, 5, 20, 81, 2, 80, 10, 20, 1, 50, 11, 20, 1, 50, 11, 20, 1);
        runs(x, 3, FILLS, 5, 11, 20, 1);
        runs(x, 3, TELLS, 5, 20, 81, 2, 80, 10, 20, 1, 50, 11, 20, 1, 50, 11, 20, 1);
        int most = 0;
        for (int kind = 0; kind <= 7; kind++) {
            NinetyNine y = with(kind, 1);
            for (int act = 0; act <= 3; act++) {
                y.act(1, act, 7);
                most = Math.max(most, y.count(4));
                for (int i = 0; i < y.count(4); i++) {
                    s.due("all are kept, as there are no more than 24", y.trace(i) > 0 ? 1 : 0, 1);
                }
                s.due("none behind them", y.trace(y.count(4)), -1);
            }
        }
        s.due("the most that can run", most, 14);
        x.body(0);
        x.keep(0, 3);
        x.taken(0, 7);
        s.due("no other call changes it", x.trace(13), 1);
    }

    private void promises() {
        s.says("`int body(int kind)`: A STEP of a KIND (0 .. 7) is kept: its number. BAD, FULL.");
        NinetyNine x = new NinetyNine();
        int[] bad = {-1, 8, 9, MIN, MAX};
        for (int kind : bad) {
            s.due("body(" + kind + ")", x.body(kind), -1);
        }
        s.due("none is kept", x.count(3), 0);
        s.due("KIND 0", x.body(0), 0);
        s.due("KIND 7", x.body(7), 1);
        for (int n = 2; n <= 49; n++) {
            s.due("number " + n, x.body(0), n);
        }
        s.due("FULL", x.body(0), -3);
        s.due("FULL, of KIND 7", x.body(7), -3);
        for (int kind : bad) {
            s.due("BAD ahead of FULL: body(" + kind + ")", x.body(kind), -1);
        }
        s.due("fifty still", x.count(3), 50);
        s.says("`int act(int body, int act, int x)`: An ACT (0 .. 3) of a STEP with x. 0, and no TRACE then: no such STEP, ACT.");
        for (int no : new int[] {-1, 50, 51, MIN, MAX}) {
            runs(x, 49, STANDS, 0, 49, 11);
            runs(x, no, FILLS, 7, 0);
        }
        for (int no : new int[] {-1, 4, 5, MIN, MAX}) {
            runs(x, 49, STANDS, 0, 49, 11);
            runs(x, 49, no, 7, 0);
        }
        runs(new NinetyNine(), 0, FILLS, 7, 0);
        runs(with(STEP, 1), 2, FILLS, 7, 0);
        runs(x, 49, FILLS, -49, 0, 1);
        s.says("`int trace(int i)`: THE TRACE's i-th body. BAD.");
        x.act(0, TELLS, 1);
        int[] due = {2, 10, 1, 11};
        for (int i = 0; i <= 3; i++) {
            s.due("trace(" + i + ")", x.trace(i), due[i]);
        }
        for (int i : new int[] {-1, 4, 23, 24, 25, MIN, MAX}) {
            s.due("trace(" + i + ")", x.trace(i), -1);
        }
        s.due("none ran", new NinetyNine().trace(0), -1);
    }
}
