/** The terms' first part but for THE LAW, and promises 1 to 5 and 8: PIECES, their numbers, what has come, what is shown. */
final class EdgesOfPieces {
    private static final int MIN = Integer.MIN_VALUE;
    private static final int MAX = Integer.MAX_VALUE;
    private final Sentences s;

    private EdgesOfPieces(Sentences s) {
        this.s = s;
    }

    static void ask(Sentences s) {
        EdgesOfPieces edges = new EdgesOfPieces(s);
        edges.pieces();
        edges.numbers();
        edges.takes();
        edges.come();
        edges.measures();
        edges.byNothing();
        edges.settings();
        edges.smoothAndNever();
        edges.promises();
        edges.fromARow();
    }

    private void pieces() {
        s.says("PIECES 0 .. 5, as they come, one behind the other:");
        NinetyNine x = new NinetyNine();
        s.due("no piece 0 yet", x.of(0, 0), -1);
        for (int number = 0; number <= 5; number++) {
            s.due("piece " + number, x.piece(10 + number, 9), number);
            s.due("as it came", x.of(number, 0), 10 + number);
            s.due("no piece behind it yet", x.of(number + 1, 0), -1);
        }
        s.due("no piece 6", x.piece(10, 9), -3);
        s.due("six still", x.count(0), 6);
        s.due("bytes of no piece 6", x.of(6, 0), -1);
        s.due("bytes of no piece -1", x.of(-1, 0), -1);
        NinetyNine two = new NinetyNine();
        two.piece(4, 4);
        two.piece(9, 3);
        s.due("the first alone is in work", two.showing(1, 5), 4);
        s.due("then the one behind it", two.showing(2, 5), 7);
    }

    /** All numbers of mend(): the least and the greatest, one beyond, and far beyond. */
    private void edgesOf(int number, int what, int least, int most) {
        int[] beyond = {least - 1, most + 1, MIN, MAX, least + 256, most - 256, MIN + least, 1 << 16 | least};
        NinetyNine x = Checks.fifteen();
        int was = x.of(number, what);
        for (int v : beyond) {
            s.due("mend(" + number + ", " + what + ", " + v + ")", x.mend(number, what, v), -1);
        }
        s.due("as it was", x.of(number, what), was);
        s.due("no change", x.count(2), 1);
        s.due("the least", x.mend(number, what, least), was);
        s.due("is told", x.of(number, what), least);
        s.due("the greatest", x.mend(number, what, most), least);
        s.due("is told", x.of(number, what), most);
    }

    private void numbers() {
        int[] beyond = {MIN, -1, 0, 100, MAX, 1 + 256, 1 << 16 | 1};
        s.says("BYTES (1 .. 99),");
        NinetyNine x = new NinetyNine();
        for (int bytes : beyond) {
            s.due("piece(" + bytes + ", 1)", x.piece(bytes, 1), -1);
        }
        s.due("none came", x.count(0), 0);
        s.due("1", x.piece(1, 1), 0);
        s.due("99", x.piece(99, 1), 1);
        s.due("1 is kept", x.of(0, 0), 1);
        s.due("99 is kept", x.of(1, 0), 99);
        edgesOf(1, 0, 1, 99);
        s.says("SPEED (1 .. 9 bytes a second),");
        x = new NinetyNine();
        for (int speed : beyond) {
            s.due("piece(1, " + speed + ")", x.piece(1, speed), -1);
        }
        s.due("piece(1, 10)", x.piece(1, 10), -1);
        s.due("none came", x.count(0), 0);
        s.due("1", x.piece(50, 1), 0);
        s.due("9", x.piece(50, 9), 1);
        s.due("1 byte a second", x.showing(7, 5), 7);
        s.due("9 bytes a second", x.showing(55, 5), 95);
        edgesOf(1, 1, 1, 9);
        s.says("STUCK (0 .. 60: so many seconds nothing of it comes first; 0 at first),");
        s.due("0 at first", x.of(0, 2), 0);
        s.due("0: it comes at once", x.showing(1, 5), 1);
        x.mend(0, 2, 60);
        s.due("60: nothing in the sixtieth", x.showing(60, 5), 0);
        s.due("60: behind it", x.showing(61, 5), 1);
        x.mend(0, 2, 1);
        s.due("1: nothing in the first", x.showing(1, 5), 0);
        s.due("1: behind it", x.showing(2, 5), 1);
        edgesOf(0, 2, 0, 60);
        edgesOf(1, 2, 0, 60);
        s.says("FILES (0 .. 9; 1 at first).");
        s.due("1 at first", x.of(0, 3), 1);
        edgesOf(0, 3, 0, 9);
        edgesOf(1, 3, 0, 9);
    }

    private void takes() {
        s.says("A PIECE takes STUCK seconds and BYTES by SPEED (cut up).");
        int[][] due = {{1, 1, 0, 1}, {1, 9, 0, 1}, {8, 9, 0, 1}, {9, 9, 0, 1}, {10, 9, 0, 2}, {18, 9, 0, 2}, {19, 9, 0, 3},
            {99, 9, 0, 11}, {99, 2, 0, 50}, {99, 1, 0, 99}, {99, 1, 60, 159}, {1, 9, 60, 61}, {7, 3, 5, 8}};
        for (int[] d : due) {
            NinetyNine x = new NinetyNine();
            x.piece(d[0], d[1]);
            x.mend(0, 2, d[2]);
            s.due(d[0] + " by " + d[1] + ", stuck " + d[2], x.of(0, 7), d[3]);
            s.due("one ahead of the last second some lack", x.showing(d[3] - 1, 5) < d[0] ? 1 : 0, 1);
            s.due("all are there in the last", x.showing(d[3], 5), d[0]);
        }
        s.says("LONG: all seconds of all PIECES.");
        NinetyNine x = new NinetyNine();
        s.due("no PIECES", x.of(0, 8), 0);
        for (int number = 0; number <= 5; number++) {
            x.piece(99, 1);
            x.mend(number, 2, 60);
            s.due("PIECES 0 to " + number, x.of(0, 8), 159 * (number + 1));
        }
    }

    private void come() {
        s.says("In second t (0 .. 999) so many BYTES have COME:");
        NinetyNine x = Checks.fifteen();
        for (int what = 0; what <= 5; what++) {
            s.due("second -1", x.showing(-1, what), -1);
            s.due("second 1000", x.showing(1000, what), -1);
            s.due("second MIN", x.showing(MIN, what), -1);
            s.due("second MAX", x.showing(MAX, what), -1);
        }
        s.due("second 0", x.showing(0, 5), 0);
        s.due("second 999", x.showing(999, 5), 30);
        s.due("no PIECES, second 0", new NinetyNine().showing(0, 5), 0);
        s.due("no PIECES, second 999", new NinetyNine().showing(999, 5), 0);
        s.says("of PIECES that are done by then all; of the one in work SPEED for each of its seconds behind STUCK (BYTES at most).");
        x = new NinetyNine();
        x.piece(11, 5);
        x.piece(7, 3);
        x.piece(1, 9);
        x.mend(1, 2, 2);
        x.mend(2, 2, 1);
        int[] due = {0, 5, 10, 11, 11, 11, 14, 17, 18, 18, 19, 19};
        for (int t = 0; t < due.length; t++) {
            s.due("in second " + t, x.showing(t, 5), due[t]);
        }
        NinetyNine most = new NinetyNine();
        for (int number = 0; number <= 5; number++) {
            most.piece(99, 1);
            most.mend(number, 2, 60);
        }
        s.due("ahead of the last of 954", most.showing(953, 5), 593);
        s.due("the last of 954", most.showing(954, 5), 594);
        s.due("stuck for the last time", most.showing(855, 5), 495);
        s.due("and not any more", most.showing(856, 5), 496);
    }

    private void measures() {
        s.says("MEASURES: per cent (cut) 0 of FILES (of PIECES that are done, by all), 1 of BYTES (COME, by all), "
            + "2 of STEPS (PIECES done, by all), 3 of TIME (seconds by LONG, LONG at most), 4 THE LAW.");
        NinetyNine x = new NinetyNine();
        x.piece(3, 1);
        x.piece(4, 2);
        x.piece(1, 1);
        x.mend(1, 3, 9);
        x.mend(2, 3, 4);
        // LONG is 3 and 2 and 1; 1, 9, 4 of 14 files.
        int[][] due = {{0, 0, 0, 7, 7, 71, 100, 100}, {0, 12, 25, 37, 62, 87, 100, 100}, {0, 0, 0, 33, 33, 66, 100, 100},
            {0, 16, 33, 50, 66, 83, 100, 100}};
        for (int measure = 0; measure <= 3; measure++) {
            x.mend(0, 4, measure);
            for (int t = 0; t <= 7; t++) {
                s.due("per cent of " + measure + " in second " + t, x.showing(t, measure), due[measure][t]);
                s.due("shown by " + measure + " in second " + t, x.showing(t, 4), due[measure][t]);
            }
            s.due("per cent of " + measure + " in second 999", x.showing(999, measure), 100);
        }
        x.mend(0, 4, 4);
        Checks.law(x, "77");
        s.due("shown by THE LAW", x.showing(3, 4), 77);
        s.due("not the BYTES'", x.showing(3, 1), 37);
        NinetyNine most = new NinetyNine();
        for (int number = 0; number <= 5; number++) {
            most.piece(99, 1);
            most.mend(number, 2, 60);
        }
        s.due("953 of 954 seconds", most.showing(953, 3), 99);
        s.due("593 of 594 bytes", most.showing(953, 1), 99);
        s.due("5 of 6 steps", most.showing(953, 2), 83);
        s.due("5 of 6 files", most.showing(953, 0), 83);
    }

    private void byNothing() {
        s.says("By nothing at all (no FILES, no PIECES): 100.");
        NinetyNine x = new NinetyNine();
        for (int measure = 0; measure <= 3; measure++) {
            x.mend(0, 4, measure);
            s.due("no PIECES, by " + measure + ", second 0", x.showing(0, measure), 100);
            s.due("no PIECES, by " + measure + ", second 999", x.showing(999, measure), 100);
            s.due("no PIECES, shown by " + measure, x.showing(0, 4), 100);
        }
        x = Checks.fifteen();
        x.mend(0, 3, 0);
        s.due("one has files: second 0", x.showing(0, 0), 0);
        s.due("one has files: the other is done", x.showing(2, 0), 0);
        x.mend(1, 3, 0);
        s.due("no FILES: second 0", x.showing(0, 0), 100);
        s.due("no FILES: second 14", x.showing(14, 0), 100);
        s.due("no FILES: BYTES are there", x.showing(0, 1), 0);
        s.due("no FILES: STEPS are there", x.showing(0, 2), 0);
        s.due("no FILES: TIME is there", x.showing(0, 3), 0);
        x.mend(0, 4, 0);
        s.due("no FILES: shown", x.showing(0, 4), 100);
    }

    private void settings() {
        s.says("MEASURE (0 .. 4; 1 at first), SMOOTH (0 .. 9; 0 at first), NEVER (0, 1; 0 at first).");
        NinetyNine x = new NinetyNine();
        int[] first = {1, 0, 0};
        int[] most = {4, 9, 1};
        for (int what = 4; what <= 6; what++) {
            s.due("at first: " + what, x.of(0, what), first[what - 4]);
            edgesOf(0, what, 0, most[what - 4]);
            s.due("without PIECES: " + what, x.mend(0, what, most[what - 4]), first[what - 4]);
            s.due("told: " + what, x.of(0, what), most[what - 4]);
            s.due("BAD without PIECES: " + what, x.mend(0, what, most[what - 4] + 1), -1);
        }
    }

    private void shows(String what, NinetyNine x, int... due) {
        for (int t = 0; t < due.length; t++) {
            s.due(what + " in second " + t, x.showing(t, 4), due[t]);
        }
    }

    private void smoothAndNever() {
        s.says("SHOWN in a second: by MEASURE; if NEVER is 1, no less than the second ahead; then, if SMOOTH is above 0, "
            + "no more than SMOOTH above the second ahead (0 in second 0).");
        NinetyNine x = Checks.fifteen();
        x.mend(0, 4, 4);
        Checks.law(x, "t=0?50;t=6?51;t=13?49;t=20?49;t=26?80;t=33?60;70");
        shows("as measured", x, 50, 51, 49, 49, 80, 60, 70);
        x.mend(0, 6, 1);
        shows("never less", x, 50, 51, 51, 51, 80, 80, 80);
        x.mend(0, 5, 9);
        shows("never less, smooth", x, 9, 18, 27, 36, 45, 54, 63, 70, 70);
        x.mend(0, 6, 0);
        shows("smooth", x, 9, 18, 27, 36, 45, 54, 63, 70, 70);
        x.mend(0, 5, 1);
        shows("smooth by 1", x, 1, 2, 3, 4, 5, 6, 7);
        s.due("smooth by 1, at last", x.showing(69, 4), 70);
        s.due("smooth by 1, ahead of it", x.showing(68, 4), 69);
        Checks.law(x, "t=0?9;t=6?18;t=13?28;t=20?0;t=26?9;t=33?99;0");
        x.mend(0, 5, 9);
        shows("9 more are no more than 9, 10 are", x, 9, 18, 27, 0, 9, 18, 0);
        x.mend(0, 6, 1);
        shows("below what was shown, though not below what was measured", x, 9, 18, 27, 27, 27, 36, 36);
        NinetyNine empty = new NinetyNine();
        empty.mend(0, 5, 9);
        empty.mend(0, 6, 1);
        shows("no PIECES, from 0 on", empty, 9, 18, 27, 36, 45, 54, 63, 72, 81, 90, 99, 100, 100);
    }

    private void promises() {
        s.says("`NinetyNine()`: An empty bar.");
        NinetyNine x = new NinetyNine();
        int[] counts = {0, 0, 0, 0, 0, -1};
        for (int what = 0; what <= 5; what++) {
            s.due("count(" + what + ")", x.count(what), counts[what]);
            s.due("led(" + what + ")", x.led(what), what == 5 ? -2 : 0);
            s.due("shelf " + what, x.taken(what, 0), -11);
        }
        s.due("no image", x.back(), -5);
        s.due("no law", x.law(), -100);
        s.says("`int piece(int bytes, int speed)`: A PIECE: its number. BAD, FULL: 6.");
        for (int number = 0; number <= 5; number++) {
            s.due("its number", x.piece(1 + number, 1), number);
        }
        s.due("FULL", x.piece(1, 1), -3);
        s.due("BAD ahead of FULL, bytes", x.piece(0, 1), -1);
        s.due("BAD ahead of FULL, speed", x.piece(1, 10), -1);
        s.says("`int mend(int number, int what, int v)`: BYTES (what 0), SPEED (1), STUCK (2), FILES (3) of a PIECE, MEASURE (4), "
            + "SMOOTH (5), NEVER (6; number 0 for these) becomes v: what it was. BAD.");
        mend();
        s.says("`int of(int number, int what)`: As of mend() (0 to 6); of a PIECE 7 how many seconds it takes; number 0: 8 LONG. BAD.");
        of();
        s.says("`int showing(int t, int what)`: Per cent of FILES (what 0), BYTES (1), STEPS (2), TIME (3), SHOWN (4), "
            + "BYTES that have COME (5) in a second. BAD.");
        x = Checks.fifteen();
        x.mend(1, 3, 4);
        x.mend(0, 4, 2);
        int[] due = {20, 33, 50, 20, 50, 10};
        for (int what = 0; what <= 5; what++) {
            s.due("showing(3, " + what + ")", x.showing(3, what), due[what]);
        }
        for (int what : new int[] {-1, 6, MIN, MAX}) {
            s.due("showing(3, " + what + ")", x.showing(3, what), -1);
            s.due("showing(1000, " + what + ")", x.showing(1000, what), -1);
        }
        s.says("---- showing (t 0 .. 999).");
        s.due("0", x.showing(0, 4), 0);
        s.due("999", x.showing(999, 4), 100);
        s.due("-1", x.showing(-1, 4), -1);
        s.due("1000", x.showing(1000, 4), -1);
    }

    private void mend() {
        NinetyNine x = Checks.fifteen();
        int[] was = {20, 2, 3, 1, 1, 0, 0};
        int[] v = {30, 3, 4, 2, 3, 5, 1};
        for (int what = 0; what <= 6; what++) {
            int number = what < 4 ? 1 : 0;
            s.due("mend(" + number + ", " + what + ", " + v[what] + ")", x.mend(number, what, v[what]), was[what]);
            s.due("becomes v", x.of(number, what), v[what]);
            for (int no : new int[] {-1, 2, 5, 6, MIN, MAX}) {
                s.due("mend(" + no + ", " + what + ", ..)", x.mend(no, what, was[what]), -1);
            }
        }
        for (int what = 4; what <= 6; what++) {
            s.due("number 1 for " + what, x.mend(1, what, 1), -1);
            s.due("as it was", x.of(0, what), v[what]);
        }
        for (int what : new int[] {-1, 7, 8, MIN, MAX}) {
            s.due("mend(0, " + what + ", 1)", x.mend(0, what, 1), -1);
        }
        NinetyNine empty = new NinetyNine();
        for (int what = 0; what <= 3; what++) {
            s.due("no PIECES: mend(0, " + what + ", 1)", empty.mend(0, what, 1), -1);
        }
    }

    private void of() {
        NinetyNine x = Checks.fifteen();
        int[] due = {20, 2, 3, 1, -1, -1, -1, 13, -1};
        int[] zero = {10, 5, 0, 1, 1, 0, 0, 2, 15};
        for (int what = 0; what <= 8; what++) {
            s.due("of(1, " + what + ")", x.of(1, what), due[what]);
            s.due("of(0, " + what + ")", x.of(0, what), zero[what]);
            s.due("of(2, " + what + ")", x.of(2, what), -1);
            s.due("of(-1, " + what + ")", x.of(-1, what), -1);
            s.due("of(MAX, " + what + ")", x.of(MAX, what), -1);
            s.due("of(MIN, " + what + ")", x.of(MIN, what), -1);
        }
        for (int what : new int[] {-1, 9, MIN, MAX}) {
            s.due("of(0, " + what + ")", x.of(0, what), -1);
        }
        NinetyNine empty = new NinetyNine();
        int[] none = {-1, -1, -1, -1, 1, 0, 0, -1, 0};
        for (int what = 0; what <= 8; what++) {
            s.due("no PIECES: of(0, " + what + ")", empty.of(0, what), none[what]);
        }
    }

    private void fromARow() {
        s.says("PIECES FROM A ROW of bytes, from a place on: by threes BYTES, SPEED, STUCK: n of them; it ends where the row "
            + "is missing, ends (within a three, too), one is not so, or PIECES are FULL: those ahead came.");
        NinetyNine x = new NinetyNine();
        s.due("the row is missing", x.pieces(0, 0, 1), 0);
        Checks.row(x, 0, 1, 1, 0, 99, 9, 60, 50, 5);
        s.due("it ends within a three, by one", x.pieces(0, 0, 3), 2);
        int[][] due = {{1, 1, 0, 1}, {99, 9, 60, 1}};
        for (int number = 0; number <= 1; number++) {
            for (int what = 0; what <= 3; what++) {
                s.due("of(" + number + ", " + what + ")", x.of(number, what), due[number][what]);
            }
        }
        s.due("within a three, by two", x.pieces(0, 7, 1), 0);
        s.due("where it ends", x.pieces(0, 8, 1), 0);
        s.due("behind that", x.pieces(0, 9, 1), 0);
        s.due("far behind", x.pieces(0, MAX, 6), 0);
        s.due("near where ints wrap", x.pieces(0, MAX - 2, 6), 0);
        s.due("no place -1", x.pieces(0, -1, 1), 0);
        s.due("no place -3", x.pieces(0, -3, 6), 0);
        s.due("no place MIN", x.pieces(0, MIN, 6), 0);
        s.due("two still", x.count(0), 2);
        x.row(1, 0, 60);
        s.due("a row of nothing but 0", x.pieces(1, 0, 6), 0);
        x.put(1, 57, 7);
        x.put(1, 58, 7);
        s.due("the last three of sixty", x.pieces(1, 57, 6), 1);
        s.due("one behind it", x.pieces(1, 58, 6), 0);
        x.row(1, 0, 0);
        s.due("a row without elements", x.pieces(1, 0, 1), 0);
        Checks.row(x, 0, 1, 1, 1, 2, 2, 2, 3, 3, 3, 4, 4, 4);
        s.due("no more than n", x.pieces(0, 0, 1), 1);
        s.due("until they are FULL", x.pieces(0, 3, 3), 2);
        s.due("the last that came", x.of(5, 2), 3);
        s.due("FULL", x.pieces(0, 0, 2), 0);
        s.due("six", x.count(0), 6);
        for (int[] bad : new int[][] {{0, 1, 1}, {100, 1, 1}, {-1, 1, 1}, {1, 0, 1}, {1, 10, 1}, {1, -1, 1}, {1, 1, -1}, {1, 1, 61}}) {
            NinetyNine y = new NinetyNine();
            Checks.row(y, 5, 2, 2, 2, bad[0], bad[1], bad[2], 3, 3, 3);
            s.due("one is not so: " + bad[0] + " " + bad[1] + " " + bad[2], y.pieces(5, 0, 3), 1);
            s.due("those ahead came", y.of(0, 2), 2);
            s.due("none behind", y.count(0), 1);
        }
        s.says("`int pieces(int shelf, int i, int n)`: PIECES FROM A ROW on a SHELF, from place i on, n (1 .. 6) of them: how many "
            + "came. BAD, -12 (no ROW of bytes; a SHELF that holds nothing is missing).");
        fromAShelf();
    }

    private void fromAShelf() {
        NinetyNine x = new NinetyNine();
        Checks.row(x, 5, 1, 1, 1, 2, 2, 2, 3, 3, 3, 4, 4, 4, 5, 5, 5, 6, 6, 6, 7, 7, 7);
        for (int shelf : new int[] {-1, 6, MIN, MAX}) {
            s.due("pieces(" + shelf + ", 0, 1)", x.pieces(shelf, 0, 1), -1);
        }
        for (int n : new int[] {0, -1, 7, MIN, MAX}) {
            s.due("pieces(5, 0, " + n + ")", x.pieces(5, 0, n), -1);
            s.due("BAD ahead of what is missing", x.pieces(0, 0, n), -1);
        }
        for (int sort = 1; sort <= 4; sort++) {
            x.row(1, sort, 6);
            s.due("no ROW of bytes: sort " + sort, x.pieces(1, 0, 1), -12);
            s.due("BAD ahead of that", x.pieces(1, 0, 7), -1);
            s.due("that ahead of where it ends", x.pieces(1, 6, 1), -12);
            s.due("that, from below 0, too", x.pieces(1, -1, 1), -12);
        }
        x.keep(1, x.body(0));
        s.due("no ROW at all", x.pieces(1, 0, 1), -12);
        x.keep(1, -1);
        s.due("nothing", x.pieces(1, 0, 1), 0);
        s.due("none came so far", x.count(0), 0);
        s.due("1 of them", x.pieces(5, 18, 1), 1);
        s.due("from place 18 on", x.of(0, 0), 7);
        NinetyNine y = new NinetyNine();
        Checks.row(y, 0, 1, 1, 1, 2, 2, 2, 3, 3, 3, 4, 4, 4, 5, 5, 5, 6, 6, 6, 7, 7, 7);
        s.due("6 of them", y.pieces(0, 0, 6), 6);
        s.due("the sixth", y.of(5, 0), 6);
        s.due("no changes", y.count(2), 0);
    }
}
