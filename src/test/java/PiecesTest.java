/** Promises 1 to 5: a new object, pieces told and from rows, their numbers. */
public final class PiecesTest {
    private static final Checks c = new Checks();

    public static void main(String[] args) {
        aNewObject();
        piece();
        pieces();
        mend();
        of();
        c.finish();
    }

    private static void aNewObject() {
        c.due("BAD", NinetyNine.BAD, -1);
        c.due("NOT", NinetyNine.NOT, -2);
        c.due("FULL", NinetyNine.FULL, -3);
        c.due("STATE", NinetyNine.STATE, -5);
        c.due("VOID", NinetyNine.VOID, -2000000000);
        NinetyNine x = new NinetyNine();
        for (int what = 0; what <= 4; what++) {
            c.due("new: count(" + what + ")", x.count(what), 0);
        }
        c.due("new: MEASURE", x.of(0, 4), 1);
        c.due("new: SMOOTH", x.of(0, 5), 0);
        c.due("new: NEVER", x.of(0, 6), 0);
        c.due("new: LONG", x.of(0, 8), 0);
        c.due("new: shows", x.showing(0, 4), 100);
        c.due("new: has come", x.showing(0, 5), 0);
        for (int measure = 0; measure <= 3; measure++) {
            c.due("new: per cent of " + measure, x.showing(7, measure), 100);
        }
        for (int what = 0; what <= 4; what++) {
            c.due("new: led(" + what + ")", x.led(what), 0);
        }
        c.due("new: led(5)", x.led(5), -2);
        c.due("new: back()", x.back(), -5);
        c.due("new: undo()", x.undo(), -5);
        c.due("new: redo()", x.redo(), -5);
        for (int shelf = 0; shelf <= 5; shelf++) {
            c.due("new: taken(" + shelf + ", 0)", x.taken(shelf, 0), -11);
        }
        NinetyNine other = new NinetyNine();
        other.piece(5, 5);
        c.due("another object's piece", x.count(0), 0);
    }

    private static void piece() {
        NinetyNine x = new NinetyNine();
        c.due("piece(0, 1)", x.piece(0, 1), -1);
        c.due("piece(100, 1)", x.piece(100, 1), -1);
        c.due("piece(1, 0)", x.piece(1, 0), -1);
        c.due("piece(1, 10)", x.piece(1, 10), -1);
        c.due("piece(MIN, MIN)", x.piece(Integer.MIN_VALUE, Integer.MIN_VALUE), -1);
        c.due("piece(MAX, 1)", x.piece(Integer.MAX_VALUE, 1), -1);
        c.due("no piece from what is BAD", x.count(0), 0);
        c.due("piece(1, 1)", x.piece(1, 1), 0);
        c.due("piece(99, 9)", x.piece(99, 9), 1);
        c.due("piece(1, 9)", x.piece(1, 9), 2);
        c.due("piece(99, 1)", x.piece(99, 1), 3);
        c.due("piece(50, 7)", x.piece(50, 7), 4);
        c.due("piece(6, 6)", x.piece(6, 6), 5);
        c.due("the seventh", x.piece(6, 6), -3);
        c.due("the seventh, BAD too", x.piece(0, 6), -1);
        c.due("six pieces", x.count(0), 6);
        c.due("bytes", x.of(1, 0), 99);
        c.due("speed", x.of(1, 1), 9);
        c.due("stuck at first", x.of(1, 2), 0);
        c.due("files at first", x.of(1, 3), 1);
    }

    private static void pieces() {
        NinetyNine x = new NinetyNine();
        c.due("pieces(-1, 0, 1)", x.pieces(-1, 0, 1), -1);
        c.due("pieces(6, 0, 1)", x.pieces(6, 0, 1), -1);
        c.due("pieces(0, 0, 0)", x.pieces(0, 0, 0), -1);
        c.due("pieces(0, 0, 7)", x.pieces(0, 0, 7), -1);
        c.due("the row is missing", x.pieces(0, 0, 6), 0);
        c.due("so all its places are", x.pieces(0, -1, 1), 0);
        Checks.row(x, 1, 9, 30, 4, 5, 80, 9, 60, 12, 1);
        c.due("no place so far out", x.pieces(1, 9, 1), 0);
        c.due("nor there", x.pieces(1, Integer.MAX_VALUE, 6), 0);
        c.due("nor below 0", x.pieces(1, -1, 1), 0);
        c.due("nor a three below 0", x.pieces(1, -2, 6), 0);
        c.due("nor far below", x.pieces(1, Integer.MIN_VALUE, 6), 0);
        c.due("of them none came", x.count(0), 0);
        c.due("BAD is named ahead", x.pieces(1, -1, 0), -1);
        c.due("a three that ends", x.pieces(1, 7, 1), 0);
        c.due("from place 1", x.pieces(1, 1, 3), 2);
        c.due("bytes of the first", x.of(0, 0), 30);
        c.due("speed of the first", x.of(0, 1), 4);
        c.due("stuck of the first", x.of(0, 2), 5);
        c.due("files of the first", x.of(0, 3), 1);
        c.due("stuck of the second", x.of(1, 2), 60);
        c.due("no change that could be undone", x.count(2), 0);
        c.due("no more than n", x.pieces(1, 1, 1), 1);
        notSo(0, 1, 1);
        notSo(100, 1, 1);
        notSo(1, 0, 1);
        notSo(1, 10, 1);
        notSo(1, 1, -1);
        notSo(1, 1, 61);
        notSo(200, 1, 1);
        Checks.row(x, 2, 1, 1, 0, 2, 2, 0, 3, 3, 0, 4, 4, 0);
        c.due("until they are full", x.pieces(2, 0, 4), 3);
        c.due("the last that came", x.of(5, 0), 3);
        c.due("full already", x.pieces(2, 0, 4), 0);
        c.due("a row of shorts is made", x.row(3, 1, 6), 1);
        c.due("a row of shorts", x.pieces(3, 0, 1), -12);
        c.due("a row of shorts, from below 0", x.pieces(3, -1, 1), -12);
        x.keep(3, x.body(0));
        c.due("a step", x.pieces(3, 0, 1), -12);
        x.row(3, 0, 0);
        c.due("a row without elements", x.pieces(3, 0, 1), 0);
    }

    private static void notSo(int bytes, int speed, int stuck) {
        NinetyNine x = new NinetyNine();
        Checks.row(x, 5, 7, 7, 0, bytes, speed, stuck, 8, 8, 0);
        c.due("ahead of " + bytes + " " + speed + " " + stuck, x.pieces(5, 0, 3), 1);
        c.due("pieces then", x.count(0), 1);
        c.due("and from there on", x.pieces(5, 3, 3), 0);
    }

    private static void mend() {
        NinetyNine x = Checks.fifteen();
        int[] least = {1, 1, 0, 0, 0, 0, 0};
        int[] most = {99, 9, 60, 9, 4, 9, 1};
        int[] was = {20, 2, 3, 1, 1, 0, 0};
        for (int what = 0; what <= 6; what++) {
            int number = what < 4 ? 1 : 0;
            String mend = "mend(" + number + ", " + what + ", ";
            c.due(mend + "too little)", x.mend(number, what, least[what] - 1), -1);
            c.due(mend + "too much)", x.mend(number, what, most[what] + 1), -1);
            c.due(mend + "MIN)", x.mend(number, what, Integer.MIN_VALUE), -1);
            c.due(mend + "MAX)", x.mend(number, what, Integer.MAX_VALUE), -1);
            c.due("as it was: " + what, x.of(number, what), was[what]);
            c.due(mend + "least)", x.mend(number, what, least[what]), was[what]);
            c.due(mend + "most)", x.mend(number, what, most[what]), least[what]);
            c.due("now: " + what, x.of(number, what), most[what]);
            c.due("no number -1: " + what, x.mend(-1, what, 1), -1);
            c.due("no number 2: " + what, x.mend(2, what, 1), -1);
        }
        for (int what = 4; what <= 6; what++) {
            c.due("number 1 has no " + what, x.mend(1, what, 0), -1);
        }
        c.due("mend(0, 7, 1)", x.mend(0, 7, 1), -1);
        c.due("mend(0, -1, 1)", x.mend(0, -1, 1), -1);
        c.due("the first is as it was", x.of(0, 0) * 1000 + x.of(0, 1) * 100 + x.of(0, 2) * 10 + x.of(0, 3), 10501);
    }

    private static void of() {
        NinetyNine x = Checks.fifteen();
        c.due("takes", x.of(0, 7), 2);
        c.due("takes, with what it is stuck", x.of(1, 7), 13);
        c.due("LONG", x.of(0, 8), 15);
        c.due("LONG is of number 0", x.of(1, 8), -1);
        c.due("of(2, 0)", x.of(2, 0), -1);
        c.due("of(-1, 0)", x.of(-1, 0), -1);
        c.due("of(2, 7)", x.of(2, 7), -1);
        c.due("of(-1, 7)", x.of(-1, 7), -1);
        c.due("of(0, 9)", x.of(0, 9), -1);
        c.due("of(0, -1)", x.of(0, -1), -1);
        c.due("of(1, 4)", x.of(1, 4), -1);
        c.due("of(1, 5)", x.of(1, 5), -1);
        c.due("of(1, 6)", x.of(1, 6), -1);
        x.mend(0, 0, 11);
        c.due("cut up", x.of(0, 7), 3);
        for (int i = 0; i < 4; i++) {
            x.piece(99, 1);
        }
        for (int i = 0; i < 6; i++) {
            x.mend(i, 0, 99);
            x.mend(i, 1, 1);
            x.mend(i, 2, 60);
        }
        c.due("the longest there is", x.of(0, 8), 954);
    }
}
