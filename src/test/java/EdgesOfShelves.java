/** SHELVES in the terms' fifth part, and promises 40 to 46: what shelves hold, and how many there are of all. */
final class EdgesOfShelves {
    private static final int MIN = Integer.MIN_VALUE;
    private static final int MAX = Integer.MAX_VALUE;
    private static final long NONE = Long.MIN_VALUE;
    private final Sentences s;

    private EdgesOfShelves(Sentences s) {
        this.s = s;
    }

    static void ask(Sentences s) {
        EdgesOfShelves edges = new EdgesOfShelves(s);
        edges.shelves();
        edges.lowestBits();
        edges.refusals();
        edges.keep();
        edges.row();
        edges.put();
        edges.element();
        edges.shift();
        edges.shiftRefused();
        edges.taken();
        edges.count();
    }

    private void holds(String what, NinetyNine x, int shelf, long... due) {
        for (int i = 0; i < due.length; i++) {
            s.due(what + ": element " + i, x.element(shelf, i), due[i]);
        }
        s.due(what + ": no more", x.element(shelf, due.length), NONE);
    }

    private void shelves() {
        s.says("SHELVES 0 .. 5 each hold nothing (at first), a STEP (a BODY), or a ROW: of 0 bytes, 1 shorts, 2 ints, 3 longs, "
            + "4 booleans, of 0 .. 60 elements, 0 at first (false);");
        NinetyNine x = new NinetyNine();
        x.body(6);
        for (int shelf = 0; shelf <= 5; shelf++) {
            s.due("nothing at first", x.taken(shelf, 0), -11);
            s.due("a STEP", x.keep(shelf, 0), 1);
            s.due("it is there", x.taken(shelf, 0), 6);
            s.due("nothing on the next", x.taken(shelf + 1, 0), shelf == 5 ? -1 : -11);
            for (int sort = 0; sort <= 4; sort++) {
                s.due("a ROW of sort " + sort, x.row(shelf, sort, 60), 1);
                for (int i : new int[] {0, 1, 30, 59}) {
                    s.due("0 at first", x.element(shelf, i), 0);
                    x.put(shelf, i, 1);
                    s.due("it is there", x.element(shelf, i), 1);
                }
                s.due("no element 60", x.element(shelf, 60), NONE);
                s.due("a ROW of none", x.row(shelf, sort, 0), 1);
                s.due("no element 0", x.element(shelf, 0), NONE);
            }
            s.due("no ROW of 61", x.row(shelf, 0, 61), -1);
            s.due("no ROW of -1", x.row(shelf, 0, -1), -14);
            s.due("nothing again", x.keep(shelf, -1), 1);
            s.due("it is not there", x.taken(shelf, 0), -11);
        }
        s.due("no SHELF -1", x.keep(-1, 0), -1);
        s.due("no SHELF 6", x.keep(6, 0), -1);
        s.due("no SHELF -1 for a ROW", x.row(-1, 0, 1), -1);
        s.due("no SHELF 6 for a ROW", x.row(6, 0, 1), -1);
    }

    private void lowestBits() {
        s.says("what is put in keeps its lowest bits (a boolean: whether it is not 0; 1 or 0).");
        long[] values = {0, 1, -1, 2, 127, 128, -128, -129, 255, 256, 32767, 32768, -32768, -32769, 65535, 65536, 2147483647L,
            2147483648L, -2147483648L, -2147483649L, 4294967295L, 4294967296L, 1L << 63, Long.MAX_VALUE, Long.MIN_VALUE + 1};
        NinetyNine[] bars = {new NinetyNine(), new NinetyNine(), new NinetyNine(), new NinetyNine(), new NinetyNine()};
        for (int sort = 0; sort <= 4; sort++) {
            bars[sort].row(3, sort, 60);
            for (long v : values) {
                long due = sort == 4 ? Math.min(1, Long.bitCount(v)) : sort == 3 ? v : v << 64 - (8 << sort) >> 64 - (8 << sort);
                for (int i : new int[] {0, 59}) {
                    s.due("put(3, " + i + ", " + v + ")", bars[sort].put(3, i, v), 1);
                    s.due("sort " + sort + ", " + v, bars[sort].element(3, i), due);
                }
            }
        }
    }

    private void refusals() {
        s.says("The host's REFUSALS: -11 nothing is there where something is wanted; -12 it is of another kind; -13 a place that is "
            + "not there; -14 a size below 0.");
        NinetyNine x = new NinetyNine();
        x.body(0);
        x.keep(1, 0);
        x.row(2, 0, 3);
        s.due("nothing: put", x.put(0, 0, 1), -11);
        s.due("nothing: shift from", x.shift(0, 0, 2, 0, 1), -11);
        s.due("nothing: shift to", x.shift(2, 0, 0, 0, 1), -11);
        s.due("nothing: taken", x.taken(0, 0), -11);
        s.due("nothing: told", x.told(0), -11);
        s.due("another kind: put", x.put(1, 0, 1), -12);
        s.due("another kind: shift from", x.shift(1, 0, 2, 0, 1), -12);
        s.due("another kind: shift to", x.shift(2, 0, 1, 0, 1), -12);
        s.due("another kind: taken", x.taken(2, 0), -12);
        s.due("another kind: told", x.told(1), -12);
        s.due("no such place: put", x.put(2, 3, 1), -13);
        s.due("no such place: shift from", x.shift(2, 3, 2, 0, 1), -13);
        s.due("no such place: shift to", x.shift(2, 0, 2, 3, 1), -13);
        s.due("a size below 0", x.row(2, 0, -1), -14);
    }

    private void keep() {
        s.says("`int keep(int shelf, int body)`: A SHELF holds nothing (body -1), or a STEP: 1. BAD.");
        NinetyNine x = new NinetyNine();
        s.due("no BODY 0", x.keep(0, 0), -1);
        s.due("nothing", x.keep(0, -1), 1);
        for (int n = 0; n <= 49; n++) {
            s.due("no BODY yet: keep(0, " + n + ")", x.keep(0, n), -1);
            x.body(n % 8);
            s.due("keep(0, " + n + ")", x.keep(0, n), 1);
            s.due("it is there", x.taken(0, 0), n % 8);
        }
        for (int body : new int[] {-2, 50, MIN, MAX}) {
            s.due("keep(0, " + body + ")", x.keep(0, body), -1);
            s.due("it holds what it held", x.taken(0, 0), 1);
        }
        for (int shelf : new int[] {-1, 6, MIN, MAX}) {
            s.due("keep(" + shelf + ", 0)", x.keep(shelf, 0), -1);
            s.due("keep(" + shelf + ", -1)", x.keep(shelf, -1), -1);
        }
        Checks.row(x, 1, 5);
        s.due("instead of a ROW", x.keep(1, 49), 1);
        s.due("it is there", x.taken(1, 0), 1);
        s.due("the ROW is not", x.element(1, 0), NONE);
        s.due("the same BODY on both", x.taken(0, 1), 1);
        s.due("nothing", x.keep(1, -1), 1);
        s.due("nothing is there", x.put(1, 0, 1), -11);
    }

    private void row() {
        s.says("`int row(int shelf, int sort, int n)`: A SHELF holds a ROW: 1. BAD (sort, n above 60); -14.");
        NinetyNine x = new NinetyNine();
        Checks.row(x, 0, 7, 8);
        int[] sorts = {-1, 5, MIN, MAX};
        int[] shelves = {-1, 6, MIN, MAX};
        for (int sort : sorts) {
            s.due("row(0, " + sort + ", 1)", x.row(0, sort, 1), -1);
            s.due("BAD ahead of -14: row(0, " + sort + ", -1)", x.row(0, sort, -1), -1);
        }
        for (int n : new int[] {61, 62, MAX}) {
            s.due("row(0, 0, " + n + ")", x.row(0, 0, n), -1);
        }
        for (int shelf : shelves) {
            s.due("row(" + shelf + ", 0, 1)", x.row(shelf, 0, 1), -1);
            s.due("BAD ahead of -14: row(" + shelf + ", 0, -1)", x.row(shelf, 0, -1), -1);
        }
        for (int n : new int[] {-1, -2, MIN}) {
            s.due("row(0, 0, " + n + ")", x.row(0, 0, n), -14);
        }
        holds("it holds what it held", x, 0, 7, 8);
        s.due("60", x.row(0, 4, 60), 1);
        s.due("0", x.row(0, 0, 0), 1);
        holds("no elements", x, 0);
        Checks.row(x, 0, 7, 8, 9);
        x.row(0, 0, 2);
        holds("a new ROW of 0", x, 0, 0, 0);
        x.row(0, 0, 3);
        holds("a longer ROW of 0", x, 0, 0, 0, 0);
        x.body(3);
        x.keep(1, 0);
        s.due("instead of a STEP", x.row(1, 3, 1), 1);
        s.due("the STEP is not there", x.taken(1, 0), -12);
        holds("the ROW is", x, 1, 0);
    }

    private void put() {
        s.says("`int put(int shelf, int i, long v)`: Element i of a ROW becomes v: 1. BAD, -11, -12, -13.");
        NinetyNine x = new NinetyNine();
        x.body(0);
        x.keep(1, 0);
        Checks.row(x, 2, 7, 8, 9);
        s.due("element 0", x.put(2, 0, 10), 1);
        s.due("element 2", x.put(2, 2, 12), 1);
        holds("they and no others", x, 2, 10, 8, 12);
        for (int shelf : new int[] {-1, 6, MIN, MAX}) {
            s.due("put(" + shelf + ", 0, 1)", x.put(shelf, 0, 1), -1);
            s.due("BAD ahead of -13", x.put(shelf, -1, 1), -1);
        }
        for (int i : new int[] {-1, 3, 59, 60, MIN, MAX}) {
            s.due("put(2, " + i + ", 1)", x.put(2, i, 1), -13);
            s.due("-11 ahead of -13: put(0, " + i + ", 1)", x.put(0, i, 1), -11);
            s.due("-12 ahead of -13: put(1, " + i + ", 1)", x.put(1, i, 1), -12);
        }
        holds("nothing changed", x, 2, 10, 8, 12);
        x.row(3, 0, 60);
        s.due("element 59 of 60", x.put(3, 59, 1), 1);
        s.due("element 60 of 60", x.put(3, 60, 1), -13);
        x.row(3, 0, 0);
        s.due("element 0 of 0", x.put(3, 0, 1), -13);
    }

    private void element() {
        s.says("`long element(int shelf, int i)`: Element i of a ROW; Long.MIN_VALUE: BAD, -11 to -13.");
        NinetyNine x = new NinetyNine();
        x.body(0);
        x.keep(1, 0);
        x.row(2, 3, 3);
        x.put(2, 0, 5);
        x.put(2, 2, Long.MAX_VALUE);
        s.due("element 0", x.element(2, 0), 5);
        s.due("element 1", x.element(2, 1), 0);
        s.due("element 2", x.element(2, 2), Long.MAX_VALUE);
        for (int shelf : new int[] {-1, 6, MIN, MAX}) {
            s.due("element(" + shelf + ", 0)", x.element(shelf, 0), NONE);
        }
        for (int i : new int[] {-1, 3, 59, 60, MIN, MAX}) {
            s.due("element(2, " + i + ")", x.element(2, i), NONE);
        }
        s.due("nothing there", x.element(0, 0), NONE);
        s.due("a STEP", x.element(1, 0), NONE);
        x.row(3, 3, 0);
        s.due("element 0 of 0", x.element(3, 0), NONE);
        x.row(3, 3, 60);
        s.due("element 59 of 60", x.element(3, 59), 0);
        s.due("element 60 of 60", x.element(3, 60), NONE);
    }

    private void shift() {
        s.says("`int shift(int shelf, int i, int other, int j, int n)`: n elements of a ROW from i on come to another one (or the same) "
            + "from j on, as they all were before: n. BAD, -11 (either), -12 (no ROWS, or of unlike sorts), -13.");
        for (int i = 0; i <= 6; i++) {
            for (int j = 0; j <= 6; j++) {
                for (int n = 0; n <= 6; n++) {
                    boolean fits = i + n <= 6 && j + n <= 6;
                    NinetyNine x = new NinetyNine();
                    Checks.row(x, 0, 1, 2, 3, 4, 5, 6);
                    long[] due = {1, 2, 3, 4, 5, 6};
                    if (fits) {
                        System.arraycopy(new long[] {1, 2, 3, 4, 5, 6}, i, due, j, n);
                    }
                    String call = "shift(0, " + i + ", 0, " + j + ", " + n + ")";
                    s.due(call, x.shift(0, i, 0, j, n), fits ? n : -13);
                    holds(call, x, 0, due);
                }
            }
        }
        NinetyNine x = new NinetyNine();
        Checks.row(x, 0, 1, 2, 3);
        Checks.row(x, 5, 11, 12, 13, 14, 15);
        s.due("to another one", x.shift(0, 0, 5, 2, 3), 3);
        holds("to it", x, 5, 11, 12, 1, 2, 3);
        holds("from it", x, 0, 1, 2, 3);
        s.due("none of them", x.shift(0, 3, 5, 5, 0), 0);
        holds("none came", x, 5, 11, 12, 1, 2, 3);
        x.row(1, 0, 0);
        s.due("none of none", x.shift(1, 0, 1, 0, 0), 0);
        for (int sort = 0; sort <= 4; sort++) {
            x.row(2, sort, 60);
            x.row(3, sort, 60);
            x.put(2, 0, 1);
            x.put(2, 59, 1);
            s.due("sixty of sort " + sort, x.shift(2, 0, 3, 0, 60), 60);
            s.due("the first", x.element(3, 0), 1);
            s.due("the last", x.element(3, 59), 1);
            s.due("no sixty-one", x.shift(2, 0, 3, 0, 61), -13);
        }
    }

    private void shiftRefused() {
        NinetyNine x = new NinetyNine();
        Checks.row(x, 0, 1, 2, 3);
        Checks.row(x, 1, 4, 5);
        x.body(0);
        x.keep(2, 0);
        x.row(3, 1, 3);
        for (int shelf : new int[] {-1, 6, MIN, MAX}) {
            s.due("shift(" + shelf + ", ..)", x.shift(shelf, 0, 1, 0, 1), -1);
            s.due("shift(.., " + shelf + ", ..)", x.shift(0, 0, shelf, 0, 1), -1);
            s.due("BAD ahead of -11", x.shift(shelf, 0, 4, 0, 1), -1);
            s.due("BAD ahead of -11, other", x.shift(4, 0, shelf, 0, 1), -1);
            s.due("BAD ahead of -12", x.shift(2, 0, shelf, 0, 1), -1);
            s.due("BAD ahead of -13", x.shift(0, -1, shelf, 0, 1), -1);
        }
        int[][] shelvesAndDue = {{4, 0, -11}, {0, 4, -11}, {4, 4, -11}, {4, 2, -11}, {2, 4, -11}, {2, 0, -12}, {0, 2, -12}, {2, 2, -12},
            {0, 3, -12}, {3, 0, -12}, {2, 3, -12}};
        for (int[] d : shelvesAndDue) {
            for (int place : new int[] {0, -1, 9, MIN, MAX}) {
                s.due("shift(" + d[0] + ", " + place + ", " + d[1] + ", 0, 1)", x.shift(d[0], place, d[1], 0, 1), d[2]);
                s.due("shift(" + d[0] + ", 0, " + d[1] + ", 0, " + place + ")", x.shift(d[0], 0, d[1], 0, place), d[2]);
            }
        }
        int[][] places = {{-1, 0, 1}, {0, -1, 1}, {3, 0, 1}, {0, 2, 1}, {2, 0, 2}, {0, 1, 2}, {0, 0, 3}, {4, 0, 0}, {0, 3, 0}, {-1, 0, 0},
            {0, -1, 0}, {MAX, 0, 1}, {0, MAX, 1}, {MIN, 0, 1}, {0, MIN, 1}, {0, 0, MAX}, {1, 1, MAX}, {MAX, MAX, MAX}, {0, 0, -1},
            {1, 1, -1}, {0, 0, MIN}, {MAX, MAX, MIN}, {3, 2, -1}};
        for (int[] p : places) {
            s.due("shift(0, " + p[0] + ", 1, " + p[1] + ", " + p[2] + ")", x.shift(0, p[0], 1, p[1], p[2]), -13);
        }
        holds("nothing changed", x, 0, 1, 2, 3);
        holds("nothing changed, other", x, 1, 4, 5);
        holds("nothing changed, shorts", x, 3, 0, 0, 0);
    }

    private void taken() {
        s.says("`int taken(int shelf, int k)`: What a SHELF holds, taken for a STEP of KIND k (0 .. 7), or under it: its KIND. BAD, -11, -12.");
        int[] above = {-1, 0, 0, 2, 1, 3, 0, 4};
        NinetyNine x = new NinetyNine();
        for (int kind = 0; kind <= 7; kind++) {
            x.keep(0, x.body(kind));
            for (int k = 0; k <= 7; k++) {
                int up = kind;
                while (up != k && up >= 0) {
                    up = above[up];
                }
                s.due("KIND " + kind + " for " + k, x.taken(0, k), up == k ? kind : -12);
            }
        }
        Checks.row(x, 1, 7);
        int[] bad = {-1, 8, 9, MIN, MAX};
        for (int k : bad) {
            s.due("taken(0, " + k + ")", x.taken(0, k), -1);
            s.due("BAD ahead of -11", x.taken(2, k), -1);
            s.due("BAD ahead of -12", x.taken(1, k), -1);
        }
        for (int shelf : new int[] {-1, 6, 7, MIN, MAX}) {
            s.due("taken(" + shelf + ", 0)", x.taken(shelf, 0), -1);
        }
        for (int k = 0; k <= 7; k++) {
            s.due("nothing for " + k, x.taken(2, k), -11);
            s.due("a ROW for " + k, x.taken(1, k), -12);
        }
    }

    private void count() {
        s.says("`int count(int what)`: How many: 0 PIECES, 1 bytes on THE TAPE, 2 changes that may be UNDONE, 3 BODIES, 4 bodies that "
            + "ran in the latest act() (all, kept or not). BAD.");
        NinetyNine x = new NinetyNine();
        for (int many : new int[] {0, 1, 5, 6, 7, 39, 40, 41, 49, 50, 51, 119, 120, 121}) {
            x = new NinetyNine();
            for (int i = 1; i <= many; i++) {
                x.feed('1');
                x.body(0);
                x.piece(1, 1);
                x.mend(0, 0, i % 99 + 1);
            }
            int[] due = {Math.min(6, many), Math.min(120, many), Math.min(40, many), Math.min(50, many), 0};
            for (int what = 0; what <= 4; what++) {
                s.due("count(" + what + ") behind " + many, x.count(what), due[what]);
            }
        }
        x.undo();
        s.due("one is UNDONE", x.count(2), 39);
        x.redo();
        s.due("and DONE AGAIN", x.count(2), 40);
        x.law();
        s.due("THE TAPE is empty", x.count(1), 0);
        x.act(0, 3, 1);
        s.due("four ran", x.count(4), 4);
        x.act(-1, 3, 1);
        s.due("none ran", x.count(4), 0);
        for (int what : new int[] {-1, 5, MIN, MAX}) {
            s.due("count(" + what + ")", x.count(what), -1);
        }
    }
}
