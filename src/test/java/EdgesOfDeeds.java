/** The terms' fourth part, and promises 28 to 36: waits by draws, waits in deed, the image, changes. */
final class EdgesOfDeeds {
    private static final int MIN = Integer.MIN_VALUE;
    private static final int MAX = Integer.MAX_VALUE;
    private final Sentences s;

    private EdgesOfDeeds(Sentences s) {
        this.s = s;
    }

    static void ask(Sentences s) {
        EdgesOfDeeds edges = new EdgesOfDeeds(s);
        edges.drawn();
        edges.waits();
        edges.promises();
        edges.led();
        edges.changes();
        edges.forty();
        edges.image();
    }

    /** Seconds of n waits, by PIECES of BYTES, SPEED, STUCK; worked out here once more. */
    private static int seconds(int[][] pieces, int seed, int n) {
        int z = seed;
        int sum = 0;
        for (int wait = 0; wait < n; wait++) {
            for (int[] piece : pieces) {
                z = z * 1103515245 + 12345;
                int draw = (z >>> 8) % 4;
                int speed = draw == 0 ? Math.max(1, piece[1] / 2) : draw == 3 ? 2 * piece[1] : piece[1];
                sum += piece[2] + (piece[0] + speed - 1) / speed;
            }
        }
        return sum;
    }

    private static NinetyNine bar(int[][] pieces) {
        NinetyNine x = new NinetyNine();
        for (int[] piece : pieces) {
            x.piece(piece[0], piece[1]);
            x.mend(x.count(0) - 1, 2, piece[2]);
        }
        return x;
    }

    private void drawn() {
        s.says("DRAWN: n waits (1 .. 30) by a SEED: z = z * 1103515245 + 12345 (an int; SEED at first) ahead of each PIECE: by "
            + "(z >>> 8) % 4 its SPEED is halved (0: cut; 1 at least), its own (1, 2), doubled (3) that time: seconds of all waits; "
            + "how often one takes it as DEAD by d (1 .. 999).");
        int[] seeds = {0, 1, -1, 3, 12345, MIN, MAX, 1 << 30, -740551042};
        for (int speed = 1; speed <= 9; speed++) {
            int[][] one = {{99, speed, speed % 3}};
            NinetyNine x = bar(one);
            for (int seed : seeds) {
                s.due("speed " + speed + ", seed " + seed, x.drawn(seed, 1, 1, 0), seconds(one, seed, 1));
                s.due("speed " + speed + ", seed " + seed + ", thirty", x.drawn(seed, 30, 1, 0), seconds(one, seed, 30));
            }
            s.due("its SPEED stays", x.of(0, 1), speed);
        }
        int[][] six = {{99, 9, 60}, {1, 1, 0}, {50, 3, 7}, {18, 9, 0}, {7, 2, 1}, {90, 5, 2}};
        NinetyNine x = bar(six);
        for (int seed : seeds) {
            for (int n : new int[] {1, 2, 29, 30}) {
                s.due("six, seed " + seed + ", " + n, x.drawn(seed, n, 999, 0), seconds(six, seed, n));
            }
        }
        // By seed 0 the first draw is 0, the second 2, the third 3.
        s.due("1 at least", bar(new int[][] {{9, 1, 0}}).drawn(0, 1, 1, 0), 9);
        s.due("halved, cut", bar(new int[][] {{12, 5, 0}}).drawn(0, 1, 1, 0), 6);
        s.due("halved, its own, doubled beyond 9", bar(new int[][] {{36, 9, 0}, {36, 9, 0}, {36, 9, 0}}).drawn(0, 1, 1, 0), 9 + 4 + 2);
        s.due("doubled that time alone", bar(new int[][] {{36, 9, 0}}).drawn(0, 4, 1, 0), seconds(new int[][] {{36, 9, 0}}, 0, 4));
        NinetyNine stuck = bar(new int[][] {{99, 9, 7}});
        // Seconds 0 to 7 show 0, whichever the SPEED; from then on each second shows another per cent.
        s.due("DEAD by 1", stuck.drawn(5, 30, 1, 1), 30);
        s.due("DEAD by 7", stuck.drawn(5, 30, 7, 1), 30);
        s.due("not by 8", stuck.drawn(5, 30, 8, 1), 0);
        s.due("not by 999", stuck.drawn(5, 30, 999, 1), 0);
        s.due("once", stuck.drawn(5, 1, 7, 1), 1);
        NinetyNine slow = bar(new int[][] {{99, 2, 0}, {99, 2, 0}});
        // Of 198 bytes some per cent stands for two seconds if they come by 1: the wait of seed 0 (halved, its own),
        // not the one of seed 3 (doubled, its own).
        s.due("halved, it is DEAD", slow.drawn(0, 1, 1, 1), 1);
        s.due("doubled, it is not", slow.drawn(3, 1, 1, 1), (((3 * 1103515245 + 12345) * 1103515245 + 12345) >>> 8) % 4 == 0 ? 1 : 0);
        s.due("its own, it is not", slow.dead(1, 0), -2);
        slow.mend(0, 4, 2);
        s.due("by the MEASURE as it is", slow.drawn(3, 1, 1, 1), 1);
        NinetyNine always = bar(new int[][] {{1, 9, 7}});
        always.mend(0, 3, 0);
        always.mend(0, 4, 0);
        // Whichever the SPEED, LONG is 8; all seconds show 100, 0 among them.
        s.due("DEAD in the second ahead of LONG", always.drawn(5, 30, 7, 1), 30);
        s.due("not in LONG", always.drawn(5, 30, 8, 1), 0);
        s.due("no PIECES: seconds", new NinetyNine().drawn(7, 30, 1, 0), 0);
        s.due("no PIECES: DEAD ones", new NinetyNine().drawn(7, 30, 1, 1), 0);
        s.says("`int drawn(int seed, int n, int d, int what)`: DRAWN: seconds (what 0), DEAD ones (1). BAD.");
        for (int n : new int[] {0, -1, 31, MIN, MAX}) {
            s.due("n " + n, x.drawn(1, n, 1, 0), -1);
            s.due("no PIECES: n " + n, new NinetyNine().drawn(1, n, 1, 1), -1);
        }
        for (int d : new int[] {0, -1, 1000, MIN, MAX}) {
            s.due("d " + d, x.drawn(1, 1, d, 0), -1);
            s.due("d " + d + ", DEAD ones", x.drawn(1, 1, d, 1), -1);
        }
        for (int what : new int[] {-1, 2, MIN, MAX}) {
            s.due("what " + what, x.drawn(1, 1, 1, what), -1);
        }
        s.due("d 999", stuck.drawn(5, 1, 999, 0), stuck.drawn(5, 1, 1, 0));
    }

    private static NinetyNine byLaw(String law) {
        NinetyNine x = Checks.fifteen();
        x.mend(0, 4, 4);
        Checks.law(x, law);
        return x;
    }

    private void ledger(String what, NinetyNine x, int... due) {
        for (int i = 0; i <= 5; i++) {
            s.due(what + ": led(" + i + ")", x.led(i), due[i]);
        }
    }

    private void waits() {
        s.says("IN DEED: a wait BEGINS in second 0; s seconds PASS (999 is the last); is it LONG or later then and SHOWN 100, it has "
            + "ended; it is CANCELLED.");
        NinetyNine x = Checks.fifteen();
        x.begin();
        s.due("in second 0", x.led(5), 0);
        s.due("to the second ahead of LONG", x.pass(14), 93);
        s.due("it is on", x.led(5), 14);
        s.due("LONG and SHOWN 100", x.pass(1), 100);
        ledger("it has ended", x, 1, 1, 0, 15, 0, -2);
        x = byLaw("100");
        x.begin();
        s.due("SHOWN 100 ahead of LONG", x.pass(14), 100);
        s.due("it is on", x.led(5), 14);
        s.due("LONG and SHOWN 100", x.pass(1), 100);
        s.due("it has ended", x.led(1), 1);
        x = byLaw("99");
        x.begin();
        s.due("LONG and SHOWN 99", x.pass(15), 99);
        s.due("it is on", x.led(5), 15);
        s.due("later and SHOWN 99", x.pass(1), 99);
        Checks.law(x, "100");
        s.due("a LAW alone ends nothing", x.led(5), 16);
        s.due("later and SHOWN 100", x.pass(1), 100);
        s.due("it has ended", x.led(5), -2);
        x = byLaw("t>99?99;100");
        x.begin();
        for (int i = 1; i <= 10; i++) {
            s.due("99 seconds, time " + i, x.pass(99), 99);
        }
        s.due("second 990", x.led(5), 990);
        s.due("9 more", x.pass(9), 99);
        s.due("999", x.led(5), 999);
        s.due("999 is the last", x.pass(1), 99);
        s.due("999 still", x.led(5), 999);
        s.due("99 more", x.pass(99), 99);
        ledger("999 seconds have passed", x, 1, 0, 0, 999, 0, 999);
        x = byLaw("99");
        x.begin();
        for (int i = 1; i <= 11; i++) {
            x.pass(99);
        }
        ledger("99 seconds of which 9 pass", x, 1, 0, 0, 999, 0, 999);
        Checks.law(x, "100");
        s.due("in second 999 it can end", x.pass(1), 100);
        ledger("it has ended in second 999", x, 1, 1, 0, 999, 0, -2);
        NinetyNine empty = new NinetyNine();
        empty.begin();
        s.due("no PIECES: it is on", empty.led(5), 0);
        s.due("no PIECES: a second", empty.pass(1), 100);
        s.due("no PIECES: it has ended", empty.led(1), 1);
        NinetyNine grown = Checks.fifteen();
        grown.begin();
        grown.pass(14);
        grown.piece(99, 1);
        s.due("LONG as it is now", grown.pass(1) < 100 ? 1 : 0, 1);
        s.due("it is on", grown.led(5), 15);
    }

    private void promises() {
        s.says("`int begin()`: A wait BEGINS: LONG. STATE: one is on.");
        NinetyNine x = Checks.fifteen();
        s.due("LONG", x.begin(), 15);
        s.due("one is on", x.begin(), -5);
        x.pass(3);
        s.due("one is on in second 3", x.begin(), -5);
        ledger("nothing changed", x, 1, 0, 0, 3, 0, 3);
        x.cancel();
        s.due("none is on", x.begin(), 15);
        s.due("in second 0", x.led(5), 0);
        s.due("no PIECES", new NinetyNine().begin(), 0);
        s.says("`int pass(int s)`: s seconds (1 .. 99) PASS: SHOWN then. BAD; STATE: none is on.");
        for (int seconds : new int[] {0, -1, 100, MIN, MAX}) {
            s.due("pass(" + seconds + ")", x.pass(seconds), -1);
            s.due("none is on: pass(" + seconds + "), BAD ahead of STATE", Checks.fifteen().pass(seconds), -1);
        }
        s.due("none passed", x.led(5), 0);
        s.due("1", x.pass(1), 16);
        s.due("99", x.pass(99), 100);
        s.due("none is on", x.pass(1), -5);
        s.due("none is on, 99", x.pass(99), -5);
        ledger("none passed then", x, 2, 1, 1, 103, 10, -2);
        s.due("none was ever on", new NinetyNine().pass(1), -5);
        s.says("`int cancel()`: CANCELLED: BYTES lost. STATE: none is on.");
        s.due("none is on", x.cancel(), -5);
        ledger("none is cancelled", x, 2, 1, 1, 103, 10, -2);
        x.begin();
        s.due("in second 0: none lost", x.cancel(), 0);
        x.begin();
        x.pass(14);
        s.due("in second 14", x.cancel(), 28);
        ledger("it is CANCELLED", x, 4, 1, 3, 117, 38, -2);
        NinetyNine late = byLaw("99");
        late.begin();
        late.pass(99);
        s.due("behind LONG: all", late.cancel(), 30);
    }

    private void led() {
        s.says("LED: begun, ended, cancelled, seconds that passed, BYTES lost.");
        NinetyNine x = Checks.fifteen();
        ledger("at first", x, 0, 0, 0, 0, 0, -2);
        x.begin();
        ledger("begun", x, 1, 0, 0, 0, 0, 0);
        x.pass(7);
        ledger("seconds", x, 1, 0, 0, 7, 0, 7);
        x.cancel();
        ledger("lost", x, 1, 0, 1, 7, 14, -2);
        x.begin();
        x.pass(15);
        ledger("ended", x, 2, 1, 1, 22, 14, -2);
        x.begin();
        x.pass(20);
        ledger("ended behind LONG", x, 3, 2, 1, 42, 14, -2);
        s.says("`int led(int what)`: LED: begun (what 0), ended (1), cancelled (2), seconds (3), lost (4), the second of the wait that "
            + "is on (5; NOT: none). BAD.");
        ledger("none is on", x, 3, 2, 1, 42, 14, -2);
        for (int what : new int[] {-1, 6, MIN, MAX}) {
            s.due("led(" + what + ")", x.led(what), -1);
        }
    }

    private void changes() {
        s.says("CHANGES (all numbers of mend(); telling the same number is none) can be UNDONE, the latest first, and DONE AGAIN "
            + "(as long as no other came behind);");
        NinetyNine x = new NinetyNine();
        x.piece(10, 5);
        int[] was = {10, 5, 0, 1, 1, 0, 0};
        int[] is = {20, 6, 7, 2, 3, 4, 1};
        for (int what = 0; what <= 6; what++) {
            x.mend(0, what, is[what]);
            s.due("a change", x.count(2), what + 1);
            x.mend(0, what, is[what]);
            s.due("the same number is none", x.count(2), what + 1);
        }
        for (int what = 6; what >= 0; what--) {
            s.due("UNDONE: how many may still be", x.undo(), what);
            s.due("the latest first: " + what, x.of(0, what), was[what]);
            s.due("not the one ahead", what == 0 || x.of(0, what - 1) == is[what - 1] ? 1 : 0, 1);
        }
        s.due("SHOWN by what is UNDONE", x.showing(1, 4), 50);
        s.due("none", x.undo(), -5);
        for (int what = 0; what <= 6; what++) {
            s.due("DONE AGAIN: how many may still be", x.redo(), 6 - what);
            s.due("the earliest first: " + what, x.of(0, what), is[what]);
            s.due("may be UNDONE", x.count(2), what + 1);
        }
        s.due("none", x.redo(), -5);
        s.due("SHOWN by what is DONE AGAIN", x.showing(9, 4), 36);
        s.due("TIME by what is DONE AGAIN", x.showing(9, 3), 81);
        x.undo();
        x.undo();
        x.mend(0, 0, 20);
        s.due("the same number is no other", x.redo(), 1);
        x.undo();
        x.mend(0, 0, 0);
        x.mend(0, 7, 1);
        x.mend(1, 0, 1);
        s.due("nor is what is BAD", x.redo(), 1);
        x.undo();
        x.mend(0, 0, 30);
        s.due("another came behind", x.redo(), -5);
        s.due("may be UNDONE", x.count(2), 6);
        s.due("it, first", x.undo(), 5);
        s.due("as it was", x.of(0, 0), 20);
        s.due("and be DONE AGAIN", x.redo(), 0);
        s.due("as it was told", x.of(0, 0), 30);
        s.says("`int undo()`: UNDONE: how many may still be. STATE: none.");
        s.due("five more", x.undo(), 5);
        s.due("a new bar", new NinetyNine().undo(), -5);
        s.says("`int redo()`: DONE AGAIN: how many may still be. STATE: none.");
        x.undo();
        s.due("one more", x.redo(), 1);
        s.due("no more", x.redo(), 0);
        s.due("none", x.redo(), -5);
        s.due("a new bar", new NinetyNine().redo(), -5);
    }

    private void forty() {
        s.says("40 at most are kept; deeds are none.");
        for (int told : new int[] {39, 40, 41, 60}) {
            NinetyNine x = new NinetyNine();
            x.piece(1, 1);
            for (int v = 2; v <= told + 1; v++) {
                x.mend(0, 0, v);
            }
            int kept = Math.min(40, told);
            s.due(told + " were told", x.count(2), kept);
            for (int left = kept - 1; left >= 0; left--) {
                s.due(told + " were told: undo", x.undo(), left);
            }
            s.due(told + " were told: no more", x.undo(), -5);
            s.due(told + " were told: the earliest that is kept is UNDONE", x.of(0, 0), 1 + told - kept);
            for (int left = kept - 1; left >= 0; left--) {
                s.due(told + " were told: redo", x.redo(), left);
            }
            s.due(told + " were told: the latest is DONE AGAIN", x.of(0, 0), told + 1);
            s.due(told + " were told: no more to do again", x.redo(), -5);
        }
        fortyOfMany();
        NinetyNine x = Checks.fifteen();
        x.undo();
        x.begin();
        x.pass(3);
        x.cancel();
        x.begin();
        x.image();
        x.pass(99);
        x.back();
        x.piece(5, 5);
        x.feed('7');
        x.law();
        x.body(0);
        Checks.row(x, 0, 1, 1, 1);
        x.pieces(0, 0, 1);
        s.due("deeds can't be UNDONE", x.count(2), 0);
        s.due("nor any of them", x.undo(), -5);
        s.due("they are no others that came behind", x.redo(), 0);
        s.due("what is DONE AGAIN", x.of(1, 2), 3);
        s.due("the PIECES stay", x.count(0), 4);
    }

    /** Of 45 changes of unlike numbers the earliest five are gone. */
    private void fortyOfMany() {
        NinetyNine x = new NinetyNine();
        x.piece(1, 1);
        x.piece(1, 1);
        for (int i = 1; i <= 9; i++) {
            x.mend(0, 0, i + 1);
            x.mend(1, 2, i);
            x.mend(0, 5, i);
            x.mend(1, 3, i % 2 * 7);
            x.mend(0, 6, i % 2);
        }
        int[] told = {10, 1, 9, 7, 1};
        int[] earliest = {2, 1, 1, 7, 1};
        for (int i = 0; i < 40; i++) {
            x.undo();
        }
        s.due("no more", x.undo(), -5);
        for (int round = 0; round <= 1; round++) {
            int[] due = round == 0 ? earliest : told;
            s.due("BYTES of 0, round " + round, x.of(0, 0), due[0]);
            s.due("STUCK of 1, round " + round, x.of(1, 2), round == 0 ? 1 : 9);
            s.due("SMOOTH, round " + round, x.of(0, 5), due[2]);
            s.due("FILES of 1, round " + round, x.of(1, 3), due[3]);
            s.due("NEVER, round " + round, x.of(0, 6), due[4]);
            for (int i = 0; i < 41; i++) {
                x.redo();
            }
        }
    }

    private void image() {
        s.says("AN IMAGE keeps whether a wait is on, its second, what LED tells.");
        NinetyNine x = Checks.fifteen();
        x.begin();
        x.pass(3);
        x.cancel();
        x.begin();
        x.pass(99);
        x.begin();
        x.pass(7);
        x.image();
        x.pass(1);
        x.cancel();
        x.begin();
        x.pass(20);
        x.mend(0, 0, 11);
        ledger("ahead of it", x, 4, 2, 2, 130, 26, -2);
        s.due("how many were begun", x.back(), 3);
        ledger("laid back", x, 3, 1, 1, 109, 10, 7);
        s.due("what is told is not", x.of(0, 0), 11);
        s.due("nor are changes", x.count(2), 2);
        s.due("a wait is on", x.begin(), -5);
        s.due("it may be CANCELLED", x.cancel(), 13);
        x.image();
        x.begin();
        x.back();
        ledger("none was on", x, 3, 1, 2, 109, 23, -2);
        s.due("none can pass", x.pass(1), -5);
        s.says("`int image()`: AN IMAGE is kept: how many were begun.");
        s.due("three", x.image(), 3);
        NinetyNine fresh = new NinetyNine();
        s.due("none", fresh.image(), 0);
        fresh.begin();
        s.due("one", fresh.image(), 1);
        s.says("`int back()`: It is laid back: how many were begun. STATE: there is none.");
        s.due("none was ever kept", new NinetyNine().back(), -5);
        fresh.pass(1);
        s.due("one, the latest that was kept", fresh.back(), 1);
        ledger("it is on", fresh, 1, 0, 0, 0, 0, 0);
        fresh.pass(1);
        s.due("once more", fresh.back(), 1);
        ledger("it is on once more", fresh, 1, 0, 0, 0, 0, 0);
        NinetyNine none = new NinetyNine();
        none.image();
        none.begin();
        s.due("an image of nothing", none.back(), 0);
        ledger("nothing", none, 0, 0, 0, 0, 0, -2);
        NinetyNine other = new NinetyNine();
        s.due("another bar's", other.back(), -5);
        other.begin();
        s.due("STATE changes nothing", other.back(), -5);
        ledger("begun still", other, 1, 0, 0, 0, 0, 0);
    }
}
