/** SEEN to SPEED in the terms' third part, and promises 23 to 27: showings read back. */
final class EdgesOfSeen {
    private static final int MIN = Integer.MIN_VALUE;
    private static final int MAX = Integer.MAX_VALUE;
    private final Sentences s;

    private EdgesOfSeen(Sentences s) {
        this.s = s;
    }

    static void ask(Sentences s) {
        EdgesOfSeen edges = new EdgesOfSeen(s);
        edges.refusals();
        edges.judged();
        edges.byWhat();
        edges.since();
        edges.stuck();
        edges.speed();
    }

    private static NinetyNine seen(NinetyNine x, long... row) {
        Checks.row(x, 0, row);
        return x;
    }

    /** A ROW of many elements that are all the same but for the last. */
    private static NinetyNine many(NinetyNine x, int n, int v, int last) {
        x.row(0, 0, n);
        for (int i = 0; i < n; i++) {
            x.put(0, i, i == n - 1 ? last : v);
        }
        return x;
    }

    private void answers(String what, NinetyNine x, int shelf, int t, int due) {
        s.due(what + ": judge", x.judge(shelf, t), due);
        s.due(what + ": which", x.which(shelf, t), due);
        s.due(what + ": stuck", x.stuck(shelf, t), due);
        s.due(what + ": speed", x.speed(shelf, t, 0), due);
    }

    private void refusals() {
        s.says("---- seen (a ROW on a SHELF; BAD, -11, -12 (no ROW of bytes)).");
        NinetyNine x = seen(Checks.fifteen(), 0);
        x.body(0);
        x.keep(1, 0);
        for (int shelf : new int[] {-1, 6, MIN, MAX}) {
            answers("shelf " + shelf, x, shelf, 0, -1);
            s.due("since(" + shelf + ")", x.since(shelf), -1);
        }
        for (int t : new int[] {-1, 1000, MIN, MAX}) {
            answers("second " + t, x, 0, t, -1);
            answers("BAD ahead of -11, second " + t, x, 2, t, -1);
            answers("BAD ahead of -12, second " + t, x, 1, t, -1);
        }
        answers("nothing there", x, 2, 0, -11);
        s.due("nothing there: since", x.since(2), -11);
        answers("nothing there, second 999", x, 2, 999, -11);
        answers("a STEP", x, 1, 0, -12);
        s.due("a STEP: since", x.since(1), -12);
        for (int sort = 1; sort <= 4; sort++) {
            for (int n = 0; n <= 1; n++) {
                x.row(3, sort, n);
                answers("a ROW of sort " + sort, x, 3, 0, -12);
                s.due("a ROW of sort " + sort + ": since", x.since(3), -12);
            }
        }
        for (int piece : new int[] {-1, 2, 5, 6, MIN, MAX}) {
            s.due("speed of piece " + piece, x.speed(0, 0, piece), -1);
            s.due("BAD ahead of -11, piece " + piece, x.speed(2, 0, piece), -1);
            s.due("BAD ahead of -12, piece " + piece, x.speed(1, 0, piece), -1);
        }
        NinetyNine empty = seen(new NinetyNine(), 100);
        s.due("no PIECES: speed of piece 0", empty.speed(0, 0, 0), -1);
        s.due("no PIECES: stuck, nothing there", empty.stuck(1, 0), -11);
    }

    private void judged() {
        s.says("SEEN: a ROW of bytes: SHOWN second by second from second t (0 .. 999) on (seconds beyond 999 are not so): "
            + "JUDGED: the first that is not so (its place); NOT.");
        NinetyNine x = Checks.fifteen();
        s.due("from second 0", seen(x, 0, 16, 33, 33, 33, 33, 40).judge(0, 0), -2);
        s.due("from second 1", x.judge(0, 1), 0);
        s.due("the last is not so", seen(x, 33, 33, 41).judge(0, 4), 2);
        s.due("the first of two that are not so", seen(x, 33, 34, 41).judge(0, 4), 1);
        s.due("no elements", seen(x).judge(0, 0), -2);
        s.due("no elements, second 999", x.judge(0, 999), -2);
        s.due("behind LONG", seen(x, 93, 100, 100, 100).judge(0, 14), -2);
        s.due("second 999", seen(x, 100).judge(0, 999), -2);
        s.due("second 999 is not so", seen(x, 99).judge(0, 999), 0);
        s.due("beyond 999", seen(x, 100, 100).judge(0, 999), 1);
        s.due("998 and 999", x.judge(0, 998), -2);
        s.due("sixty up to 999", many(x, 60, 100, 100).judge(0, 940), -2);
        s.due("sixty, one beyond", x.judge(0, 941), 59);
        s.due("sixty, all but the first beyond", x.judge(0, 999), 1);
        s.due("sixty, the last is not so", many(x, 60, 100, 99).judge(0, 100), 59);
        s.due("below 0", seen(x, 0, -1).judge(0, 0), 1);
        s.due("100 is a byte", seen(x, 127).judge(0, 15), 0);
        x.mend(0, 4, 4);
        Checks.law(x, "0");
        s.due("0 up to 999", seen(x, 0, 0, 0).judge(0, 997), -2);
        s.due("0 beyond 999 is not so", x.judge(0, 998), 2);
        s.says("`int judge(int shelf, int t)`: JUDGED. NOT.");
        s.due("JUDGED", seen(x, 0, 1).judge(0, 5), 1);
        s.due("NOT", seen(x, 0, 0).judge(0, 5), -2);
    }

    private void byWhat() {
        s.says("BY WHAT: which MEASURES (bits 0 .. 4) make it so.");
        NinetyNine x = Checks.fifteen();
        x.mend(1, 3, 3);
        Checks.law(x, "77");
        // In second 2 FILES are at 25, BYTES at 33, STEPS at 50, TIME at 13, THE LAW at 77.
        int[] cents = {25, 33, 50, 13, 77};
        for (int measure = 0; measure <= 4; measure++) {
            for (int as = 0; as <= 4; as++) {
                x.mend(0, 4, as);
                s.due("bit " + measure + ", MEASURE " + as, seen(x, cents[measure]).which(0, 2), 1 << measure);
                s.due("MEASURE stays", x.of(0, 4), as);
            }
        }
        s.due("none", seen(x, 76).which(0, 2), 0);
        s.due("all but THE LAW", seen(x, 100, 100).which(0, 15), 15);
        s.due("no elements: all", seen(x).which(0, 0), 31);
        s.due("no elements, second 999: all", x.which(0, 999), 31);
        s.due("second 999", seen(x, 100).which(0, 999), 15);
        s.due("beyond 999", seen(x, 100, 100).which(0, 999), 0);
        s.due("998 and 999", x.which(0, 998), 15);
        s.due("sixty up to 999", many(x, 60, 77, 77).which(0, 940), 16);
        s.due("sixty, one beyond", x.which(0, 941), 0);
        x.mend(0, 5, 9);
        s.due("by SMOOTH as it is", seen(x, 27, 36).which(0, 2), 16);
        s.due("by SMOOTH, BYTES and STEPS", seen(x, 9, 18).which(0, 1), 2);
        x.mend(0, 5, 0);
        x.mend(0, 6, 1);
        Checks.law(x, "t=6?60;t");
        s.due("by NEVER as it is", seen(x, 60, 60).which(0, 2), 16);
        s.due("no PIECES", seen(new NinetyNine(), 100).which(0, 0), 31);
        s.says("`int which(int shelf, int t)`: BY WHAT: bits.");
        s.due("bits", seen(Checks.fifteen(), 33).which(0, 2), 2 + 16);
    }

    private void since() {
        s.says("SINCE: the least t by which it is so; NOT.");
        NinetyNine x = Checks.fifteen();
        s.due("second 0", seen(x, 0).since(0), 0);
        s.due("the least of four", seen(x, 33).since(0), 2);
        s.due("the greatest of four", seen(x, 33, 40).since(0), 5);
        s.due("never", seen(x, 33, 41).since(0), -2);
        s.due("no elements", seen(x).since(0), 0);
        s.due("over LONG", seen(x, 93, 100).since(0), 14);
        s.due("sixty", many(x, 60, 100, 100).since(0), 15);
        NinetyNine late = new NinetyNine();
        for (int number = 0; number <= 5; number++) {
            late.piece(99, 1);
            late.mend(number, 2, 60);
        }
        late.mend(0, 4, 4);
        // LONG is 954: 2 there, 92 in second 999.
        Checks.law(late, "t<100?0;l+2");
        s.due("in second 999", seen(late, 92).since(0), 999);
        s.due("behind it", seen(late, 94).since(0), -2);
        s.due("up to 999", seen(late, 90, 92).since(0), 998);
        s.due("beyond 999", seen(late, 92, 94).since(0), -2);
        s.due("fifty up to 999", many(late, 47, 0, 2).since(0), 908);
        s.says("`int since(int shelf)`: SINCE. NOT.");
        s.due("SINCE", seen(x, 40).since(0), 6);
        s.due("NOT", seen(x, 41).since(0), -2);
        s.due("no PIECES", seen(new NinetyNine(), 100, 100).since(0), 0);
    }

    private void stuck() {
        s.says("STUCK: the first PIECE, the least STUCK (0 .. 60) by which, told anew, it is so: 100 times the PIECE and that; NOT.");
        NinetyNine six = new NinetyNine();
        for (int number = 0; number <= 5; number++) {
            six.piece(1, 1);
        }
        // By piece 5's STUCK 60 second 65 is the last that shows 83; by another piece's second 6 shows less.
        s.due("piece 5 by 60", many(six, 60, 83, 83).stuck(0, 6), 560);
        s.due("not by 61", six.stuck(0, 7), -2);
        s.due("piece 5 by 60, of three", seen(six, 83, 83, 83).stuck(0, 63), 560);
        s.due("piece 0 by 60, of one", seen(six, 83).stuck(0, 65), 60);
        s.due("piece 1 by 60", seen(six, 16, 16, 33).stuck(0, 60), 160);
        s.due("piece 0 by 0", seen(six, 0, 16, 33).stuck(0, 0), 0);
        s.due("piece 0 by 60", seen(six, 0, 16).stuck(0, 60), 60);
        s.due("piece 1 by 1", seen(six, 0, 16, 16, 33, 50).stuck(0, 0), 101);
        s.due("piece 4 by 2", seen(six, 66, 66, 66, 83, 100).stuck(0, 4), 402);
        s.due("the least of many", seen(six, 0).stuck(0, 10), 10);
        s.due("the first of many", seen(six, 16).stuck(0, 10), 9);
        s.due("never", seen(six, 17).stuck(0, 10), -2);
        s.due("nothing is mended", six.of(5, 2), 0);
        NinetyNine x = Checks.fifteen();
        s.due("what it has is told anew", seen(x, 0, 16, 33, 33, 33, 33, 40).stuck(0, 0), 0);
        s.due("0 though it has 3", seen(x, 33, 40).stuck(0, 2), 100);
        s.due("piece 1 stays", x.of(1, 2), 3);
        s.due("no elements", seen(x).stuck(0, 0), 0);
        s.due("no elements, second 999", x.stuck(0, 999), 0);
        s.due("second 999", seen(x, 100).stuck(0, 999), 0);
        s.due("beyond 999", seen(x, 100, 100).stuck(0, 999), -2);
        s.due("998 and 999", x.stuck(0, 998), 0);
        s.due("no PIECES, no elements", seen(new NinetyNine()).stuck(0, 0), -2);
        s.due("no PIECES", seen(new NinetyNine(), 100).stuck(0, 0), -2);
        s.says("`int stuck(int shelf, int t)`: STUCK. NOT.");
        s.due("STUCK", seen(x, 33, 33, 40).stuck(0, 2), 101);
        s.due("NOT", seen(x, 1).stuck(0, 2), -2);
    }

    private void speed() {
        s.says("SPEED: the least (1 .. 9) of a PIECE by which it is so; NOT.");
        NinetyNine x = new NinetyNine();
        x.piece(50, 5);
        x.piece(50, 5);
        for (int speed = 1; speed <= 9; speed++) {
            s.due("piece 0 by " + speed, seen(x, 0, speed, 2 * speed).speed(0, 0, 0), speed);
        }
        s.due("not by 10", seen(x, 0, 10, 20).speed(0, 0, 0), -2);
        s.due("not by 0", seen(x, 0, 0).speed(0, 0, 0), -2);
        s.due("piece 1 by 9", seen(x, 50, 59, 68).speed(0, 10, 1), 9);
        s.due("piece 1 by 1", seen(x, 50, 51, 52).speed(0, 10, 1), 1);
        s.due("piece 0 does not", x.speed(0, 10, 0), -2);
        s.due("the least of some", seen(x, 100).speed(0, 17, 0), 8);
        s.due("what it has", seen(x, 0, 5).speed(0, 0, 0), 5);
        s.due("nothing is mended", x.of(0, 1), 5);
        s.due("no elements", seen(x).speed(0, 0, 0), 1);
        s.due("no elements, second 999", x.speed(0, 999, 1), 1);
        s.due("second 999", seen(x, 100).speed(0, 999, 0), 1);
        s.due("beyond 999", seen(x, 100, 100).speed(0, 999, 0), -2);
        s.due("998 and 999", x.speed(0, 998, 0), 1);
        s.says("`int speed(int shelf, int t, int piece)`: SPEED of a PIECE. NOT.");
        NinetyNine six = new NinetyNine();
        for (int number = 0; number <= 5; number++) {
            six.piece(9, 9);
            s.due("of PIECE " + number, seen(six, 100).speed(0, number + 1, number), 9);
            s.due("NOT, of PIECE " + number, seen(six, 99).speed(0, 999, number), -2);
            s.due("no PIECE " + (number + 1), six.speed(0, 0, number + 1), -1);
        }
    }
}
