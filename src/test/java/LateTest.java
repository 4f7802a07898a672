/**
 * Promises 1 to 46 late in a run: of 512 calls some 220 first fill all that can be full, lay rows over rows, tell the
 * law anew, undo, do again and lay an image back; then calls come as they fall; then all that is left is asked for.
 */
public final class LateTest {
    private static final int RUNS = 240;
    private static final int CALLS = 512;
    // A text and a row that come then still stay within the 512 calls.
    private static final int FALLING = 360;

    private final Checks c;
    private final Compared both;

    private LateTest(Checks c, int run) {
        this.c = c;
        this.both = new Compared(c, run * 104729L + 17);
    }

    public static void main(String[] args) {
        Checks c = new Checks();
        for (int run = 0; run < RUNS; run++) {
            LateTest test = new LateTest(c, run);
            test.fill(run % 3 == 0 ? 5 : 6, 3 + run % 2 * 55);
            test.fall(run % 3);
            test.empty();
        }
        c.finish();
    }

    private int below(int n) {
        return both.random.nextInt(n);
    }

    /** At most so many pieces, none of them stuck for longer. */
    private void fill(int pieces, int stuck) {
        bodies();
        rows(stuck);
        pieces(pieces);
        law();
        changes(stuck);
        waits();
        law();
        rows(stuck);
        c.due("PIECES", both.due.count(0), pieces);
        c.due("BODIES", both.due.count(3), 50);
        c.due("no more bodies", both.due.body(0), -3);
        c.that("changes that were undone and done again", both.due.count(2) > 20);
        c.that("calls of a run: " + both.all, both.all < FALLING - 60);
    }

    private void bodies() {
        for (int n = 0; n <= 50; n++) {
            int kind = n < 8 ? n : below(8);
            both.same("body " + kind, both.x.body(kind), both.due.body(kind));
        }
    }

    /** Each shelf holds something else than ahead: two rows of bytes to make pieces from, others, a step, nothing. */
    private void rows(int stuck) {
        for (int shelf = 0; shelf <= 5; shelf++) {
            int sort = shelf < 2 ? 0 : below(5);
            int n = shelf < 2 ? 6 : below(61);
            both.same("row " + shelf + " " + sort + " " + n, both.x.row(shelf, sort, n), both.due.row(shelf, sort, n));
            for (int i = 0; i < 6; i++) {
                int v = i % 3 == 0 ? 1 + below(99) : i % 3 == 1 ? 1 + below(9) : below(stuck + 1);
                both.same("put " + shelf + " " + i + " " + v, both.x.put(shelf, i, v), both.due.put(shelf, i, v));
            }
        }
        for (int shelf = 4; shelf <= 5; shelf++) {
            int body = below(51) - 1;
            if (both.random.nextBoolean()) {
                both.same("keep " + shelf + " " + body, both.x.keep(shelf, body), both.due.keep(shelf, body));
            }
        }
    }

    private void pieces(int most) {
        for (int shelf = 0; shelf <= 1; shelf++) {
            both.same("showing 5 4", both.x.showing(5, 4), both.due.showing(5, 4));
            int n = 1 + below(6);
            both.same("pieces " + shelf + " 0 " + n, both.x.pieces(shelf, 0, n), both.due.pieces(shelf, 0, n));
        }
        while (both.due.count(0) < most) {
            int bytes = 1 + below(99);
            int speed = 1 + below(9);
            both.same("piece " + bytes + " " + speed, both.x.piece(bytes, speed), both.due.piece(bytes, speed));
        }
    }

    private void law() {
        String[] texts = {"l<t?l+3;t", "b<90?b*9/10;81", "!(t/10%2)*99", "b&t|s?99;0", "n*9", "l=0?40;l-1",
            "t<9?b", "0?7;l?9"};
        String text = texts[below(texts.length)];
        for (int i = 0; i < text.length(); i++) {
            int letter = text.charAt(i);
            both.same("feed " + letter, both.x.feed(letter), both.due.feed(letter));
        }
        both.same("law of " + text, both.x.law(), both.due.law());
    }

    /** More than are kept; then some are undone, of those some done again, and another comes behind, or none. */
    private void changes(int stuck) {
        for (int i = 0; i < 44; i++) {
            int what = below(7);
            int piece = what < 4 ? below(both.due.count(0)) : 0;
            int[] most = {99, 9, stuck, 9, 4, 9, 1};
            int least = what < 2 ? 1 : 0;
            int v = (both.due.of(piece, what) - least + 1) % (most[what] - least + 1) + least;
            both.same("mend " + piece + " " + what + " " + v, both.x.mend(piece, what, v), both.due.mend(piece, what, v));
        }
        c.due("changes", both.due.count(2), 40);
        for (int i = below(12); i > 0; i--) {
            both.same("undo", both.x.undo(), both.due.undo());
        }
        for (int i = below(8); i > 0; i--) {
            both.same("redo", both.x.redo(), both.due.redo());
        }
        if (both.random.nextBoolean()) {
            int v = 9 - both.due.of(0, 3);
            both.same("mend 0 3 " + v, both.x.mend(0, 3, v), both.due.mend(0, 3, v));
        }
    }

    private void waits() {
        for (int wait = 0; wait < 3; wait++) {
            both.same("begin", both.x.begin(), both.due.begin());
            int s = 1 + below(99);
            both.same("pass " + s, both.x.pass(s), both.due.pass(s));
            if (wait == 1) {
                both.same("image", both.x.image(), both.due.image());
            }
            if (both.random.nextBoolean()) {
                both.same("cancel", both.x.cancel(), both.due.cancel());
            }
        }
        both.same("back", both.x.back(), both.due.back());
    }

    private void fall(int small) {
        while (both.all < FALLING) {
            both.one(below(100), small);
        }
    }

    private void empty() {
        for (int what = 0; what <= 5; what++) {
            both.same("led " + what, both.x.led(what), both.due.led(what));
            both.same("count " + what, both.x.count(what), both.due.count(what));
        }
        boolean undoing = true;
        while (both.all < CALLS) {
            int left = undoing ? both.due.undo() : both.due.redo();
            both.same(undoing ? "undo" : "redo", undoing ? both.x.undo() : both.x.redo(), left);
            undoing = left >= 0 ? undoing : !undoing;
            if (both.all < CALLS) {
                ask();
            }
        }
        c.due("calls", both.all, CALLS);
    }

    private void ask() {
        int number = below(6);
        int what = below(9);
        int t = both.second();
        switch (below(both.due.count(0) > 5 ? 4 : 5)) {
            case 4 -> both.same("order " + (number - 1), both.x.order(number - 1), both.due.order(number - 1));
            case 0 -> both.same("of " + number + " " + what, both.x.of(number, what), both.due.of(number, what));
            case 1 -> both.same("showing " + t + " 4", both.x.showing(t, 4), both.due.showing(t, 4));
            case 2 -> both.same("off 1", both.x.off(1), both.due.off(1));
            default -> both.same("element 0 " + number, both.x.element(0, number), both.due.element(0, number));
        }
    }
}
