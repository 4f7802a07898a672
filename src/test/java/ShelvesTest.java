/** Promises 40 to 46: what shelves hold, and how many there are of all. */
public final class ShelvesTest {
    private static final Checks c = new Checks();

    public static void main(String[] args) {
        keep();
        row();
        put();
        element();
        shift();
        shiftRefusals();
        taken();
        count();
        c.finish();
    }

    private static void keep() {
        NinetyNine x = new NinetyNine();
        x.body(2);
        x.body(5);
        c.due("keep(-1, 0)", x.keep(-1, 0), -1);
        c.due("keep(6, 0)", x.keep(6, 0), -1);
        c.due("keep(0, -2)", x.keep(0, -2), -1);
        c.due("keep(0, 2)", x.keep(0, 2), -1);
        c.due("nothing yet", x.taken(0, 0), -11);
        c.due("keep(0, 1)", x.keep(0, 1), 1);
        c.due("a step", x.taken(0, 0), 5);
        c.due("keep(0, 0)", x.keep(0, 0), 1);
        c.due("another step", x.taken(0, 0), 2);
        c.due("what is BAD changes nothing", x.keep(0, 9), -1);
        c.due("the step still", x.taken(0, 0), 2);
        c.due("keep(5, 1)", x.keep(5, 1), 1);
        c.due("each shelf holds its own", x.taken(0, 0), 2);
        c.due("keep(0, -1)", x.keep(0, -1), 1);
        c.due("nothing", x.taken(0, 0), -11);
        x.row(1, 3, 2);
        x.keep(1, 0);
        c.due("instead of a row", x.element(1, 0), Long.MIN_VALUE);
        x.keep(2, 0);
        c.due("one body on two shelves", x.taken(2, 2), 2);
    }

    private static void row() {
        NinetyNine x = new NinetyNine();
        c.due("row(-1, 0, 1)", x.row(-1, 0, 1), -1);
        c.due("row(6, 0, 1)", x.row(6, 0, 1), -1);
        c.due("row(0, -1, 1)", x.row(0, -1, 1), -1);
        c.due("row(0, 5, 1)", x.row(0, 5, 1), -1);
        c.due("row(0, 0, 61)", x.row(0, 0, 61), -1);
        c.due("row(0, 0, MAX)", x.row(0, 0, Integer.MAX_VALUE), -1);
        c.due("row(0, 0, -1)", x.row(0, 0, -1), -14);
        c.due("row(0, 0, MIN)", x.row(0, 0, Integer.MIN_VALUE), -14);
        c.due("BAD first", x.row(0, 5, -1), -1);
        c.due("BAD first, by the shelf", x.row(6, 0, -1), -1);
        c.due("nothing came", x.element(0, 0), Long.MIN_VALUE);
        for (int sort = 0; sort <= 4; sort++) {
            c.due("row(0, " + sort + ", 60)", x.row(0, sort, 60), 1);
            c.due("0 at first", x.element(0, 0), 0);
            c.due("0 at last", x.element(0, 59), 0);
            c.due("no more", x.element(0, 60), Long.MIN_VALUE);
            x.put(0, 0, 1);
            x.put(0, 59, 1);
        }
        c.due("refused", x.row(0, 0, -1), -14);
        c.due("and as it was", x.element(0, 59), 1);
        c.due("row(0, 0, 0)", x.row(0, 0, 0), 1);
        c.due("nothing in it", x.element(0, 0), Long.MIN_VALUE);
        x.row(0, 0, 60);
        c.due("0 again", x.element(0, 59), 0);
        x.body(0);
        x.keep(1, 0);
        c.due("instead of a step", x.row(1, 2, 1), 1);
        c.due("no step", x.taken(1, 0), -12);
    }

    private static void put() {
        NinetyNine x = new NinetyNine();
        c.due("put(-1, 0, 1)", x.put(-1, 0, 1), -1);
        c.due("put(6, 0, 1)", x.put(6, 0, 1), -1);
        c.due("nothing is there", x.put(0, 0, 1), -11);
        c.due("nothing is there, nor such a place", x.put(0, -1, 1), -11);
        x.body(0);
        x.keep(0, 0);
        c.due("a step", x.put(0, 0, 1), -12);
        x.row(0, 2, 3);
        c.due("put(0, -1, 1)", x.put(0, -1, 1), -13);
        c.due("put(0, 3, 1)", x.put(0, 3, 1), -13);
        c.due("put(0, MAX, 1)", x.put(0, Integer.MAX_VALUE, 1), -13);
        c.due("put(0, MIN, 1)", x.put(0, Integer.MIN_VALUE, 1), -13);
        c.due("put(0, 2, 9)", x.put(0, 2, 9), 1);
        c.due("element", x.element(0, 2), 9);
        c.due("no other", x.element(0, 1), 0);
        x.row(0, 0, 0);
        c.due("a row without elements", x.put(0, 0, 1), -13);
        long[] values = {1, -1, 127, 128, 255, 256, 32768, -32769, 65536, 1L << 31, 1L << 32, (1L << 40) + 5,
            Long.MAX_VALUE, Long.MIN_VALUE + 1, 0};
        for (int sort = 0; sort <= 4; sort++) {
            x.row(1, sort, 1);
            for (long v : values) {
                c.due("put(1, 0, " + v + ")", x.put(1, 0, v), 1);
                long due = sort == 0 ? (byte) v : sort == 1 ? (short) v : sort == 2 ? (int) v : sort == 3 ? v
                    : v != 0 ? 1 : 0;
                c.due("of sort " + sort + ": " + v, x.element(1, 0), due);
            }
        }
    }

    private static void element() {
        NinetyNine x = new NinetyNine();
        long none = Long.MIN_VALUE;
        c.due("element(-1, 0)", x.element(-1, 0), none);
        c.due("element(6, 0)", x.element(6, 0), none);
        c.due("nothing is there", x.element(0, 0), none);
        x.body(0);
        x.keep(0, 0);
        c.due("a step", x.element(0, 0), none);
        x.row(0, 3, 2);
        c.due("element(0, -1)", x.element(0, -1), none);
        c.due("element(0, 2)", x.element(0, 2), none);
        c.due("element(0, MAX)", x.element(0, Integer.MAX_VALUE), none);
        x.put(0, 0, 5);
        x.put(0, 1, -6);
        c.due("element(0, 0)", x.element(0, 0), 5);
        c.due("element(0, 1)", x.element(0, 1), -6);
    }

    private static void shift() {
        NinetyNine x = new NinetyNine();
        Checks.row(x, 0, 1, 2, 3, 4, 5, 6);
        Checks.row(x, 1, 11, 12, 13, 14);
        c.due("to another", x.shift(0, 1, 1, 0, 3), 3);
        holds(x, 1, 2, 3, 4, 14);
        holds(x, 0, 1, 2, 3, 4, 5, 6);
        c.due("to the same, up", x.shift(0, 0, 0, 2, 4), 4);
        holds(x, 0, 1, 2, 1, 2, 3, 4);
        Checks.row(x, 0, 1, 2, 3, 4, 5, 6);
        c.due("to the same, down", x.shift(0, 2, 0, 1, 4), 4);
        holds(x, 0, 1, 3, 4, 5, 6, 6);
        c.due("to the same place", x.shift(0, 0, 0, 0, 6), 6);
        holds(x, 0, 1, 3, 4, 5, 6, 6);
        c.due("none", x.shift(0, 6, 1, 4, 0), 0);
        c.due("none, from the first on", x.shift(0, 0, 1, 0, 0), 0);
        holds(x, 1, 2, 3, 4, 14);
        for (int sort = 1; sort <= 4; sort++) {
            x.row(2, sort, 2);
            x.row(3, sort, 2);
            x.put(2, 1, -3);
            c.due("of sort " + sort, x.shift(2, 1, 3, 0, 1), 1);
            c.due("came", x.element(3, 0), sort == 4 ? 1 : -3);
        }
    }

    private static void holds(NinetyNine x, int shelf, long... due) {
        for (int i = 0; i < due.length; i++) {
            c.due("shelf " + shelf + ", element " + i, x.element(shelf, i), due[i]);
        }
        c.due("shelf " + shelf + " ends", x.element(shelf, due.length), Long.MIN_VALUE);
    }

    private static void shiftRefusals() {
        NinetyNine x = new NinetyNine();
        Checks.row(x, 0, 1, 2, 3);
        Checks.row(x, 1, 4, 5);
        x.row(2, 1, 3);
        x.body(0);
        x.keep(3, 0);
        c.due("shift(-1, ..)", x.shift(-1, 0, 0, 0, 1), -1);
        c.due("shift(6, ..)", x.shift(6, 0, 0, 0, 1), -1);
        c.due("shift(.., -1, ..)", x.shift(0, 0, -1, 0, 1), -1);
        c.due("shift(.., 6, ..)", x.shift(0, 0, 6, 0, 1), -1);
        c.due("nothing there", x.shift(4, 0, 0, 0, 1), -11);
        c.due("nothing there, other", x.shift(0, 0, 4, 0, 1), -11);
        c.due("nothing there ahead of another kind", x.shift(3, 0, 4, 0, 1), -11);
        c.due("nothing there ahead of another kind, other", x.shift(4, 0, 3, 0, 1), -11);
        c.due("a step", x.shift(3, 0, 0, 0, 1), -12);
        c.due("a step, other", x.shift(0, 0, 3, 0, 1), -12);
        c.due("two steps", x.shift(3, 0, 3, 0, 0), -12);
        c.due("unlike sorts", x.shift(0, 0, 2, 0, 1), -12);
        c.due("unlike sorts ahead of places", x.shift(0, 9, 2, -1, 1), -12);
        c.due("no place -1", x.shift(0, -1, 1, 0, 1), -13);
        c.due("no place -1, other", x.shift(0, 0, 1, -1, 1), -13);
        c.due("too many", x.shift(0, 2, 1, 0, 2), -13);
        c.due("too many, other", x.shift(0, 0, 1, 1, 2), -13);
        c.due("too many by far", x.shift(0, 0, 1, 0, Integer.MAX_VALUE), -13);
        c.due("from too far out", x.shift(0, 4, 1, 0, 0), -13);
        c.due("to too far out", x.shift(0, 0, 1, 3, 0), -13);
        c.due("from MAX", x.shift(0, Integer.MAX_VALUE, 1, 0, 1), -13);
        c.due("to MAX", x.shift(0, 0, 1, Integer.MAX_VALUE, 1), -13);
        c.due("fewer than none", x.shift(0, 1, 1, 1, -1), -13);
        holds(x, 0, 1, 2, 3);
        holds(x, 1, 4, 5);
    }

    private static void taken() {
        NinetyNine x = new NinetyNine();
        int[][] under = {{0}, {0, 1}, {0, 2}, {0, 2, 3}, {0, 1, 4}, {0, 2, 3, 5}, {0, 6}, {0, 1, 4, 7}};
        for (int kind = 0; kind <= 7; kind++) {
            x.body(kind);
            x.keep(kind % 6, kind);
            for (int k = 0; k <= 7; k++) {
                int due = -12;
                for (int above : under[kind]) {
                    due = above == k ? kind : due;
                }
                c.due("kind " + kind + " for " + k, x.taken(kind % 6, k), due);
            }
        }
        c.due("taken(-1, 0)", x.taken(-1, 0), -1);
        c.due("taken(6, 0)", x.taken(6, 0), -1);
        c.due("taken(0, -1)", x.taken(0, -1), -1);
        c.due("taken(0, 8)", x.taken(0, 8), -1);
        x.row(0, 0, 3);
        c.due("a row", x.taken(0, 0), -12);
        x.keep(0, -1);
        c.due("nothing", x.taken(0, 0), -11);
        c.due("nothing, BAD too", x.taken(0, 8), -1);
    }

    private static void count() {
        NinetyNine x = Checks.fifteen();
        x.feed('1');
        x.feed('2');
        x.feed('3');
        x.mend(0, 5, 1);
        x.mend(0, 5, 2);
        x.mend(0, 5, 3);
        for (int i = 0; i < 5; i++) {
            x.body(0);
        }
        x.act(0, 3, 0);
        int[] due = {2, 3, 4, 5, 4};
        for (int what = 0; what <= 4; what++) {
            c.due("count(" + what + ")", x.count(what), due[what]);
        }
        x.undo();
        c.due("one is undone", x.count(2), 3);
        c.due("count(-1)", x.count(-1), -1);
        c.due("count(5)", x.count(5), -1);
        c.due("count(MIN)", x.count(Integer.MIN_VALUE), -1);
    }
}
