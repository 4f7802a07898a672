/** Promises 23 to 28: showings read back, and waits by draws. */
public final class SeenTest {
    private static final Checks c = new Checks();

    public static void main(String[] args) {
        refusals();
        judge();
        which();
        since();
        stuck();
        speed();
        seenByTheSecondAhead();
        drawn();
        c.finish();
    }

    private static void refusals() {
        NinetyNine x = Checks.fifteen();
        x.body(0);
        refuses(x, 1, -11);
        x.keep(1, 0);
        refuses(x, 1, -12);
        x.keep(1, -1);
        refuses(x, 1, -11);
        for (int sort = 1; sort <= 4; sort++) {
            x.row(1, sort, 0);
            refuses(x, 1, -12);
        }
        refuses(x, -1, -1);
        refuses(x, 6, -1);
        refuses(x, Integer.MIN_VALUE, -1);
        int[] seconds = {-1, 1000, Integer.MAX_VALUE, Integer.MIN_VALUE};
        for (int t : seconds) {
            c.due("judge(0, " + t + ")", x.judge(0, t), -1);
            c.due("which(0, " + t + ")", x.which(0, t), -1);
            c.due("stuck(0, " + t + ")", x.stuck(0, t), -1);
            c.due("speed(0, " + t + ", 0)", x.speed(0, t, 0), -1);
        }
        c.due("speed(0, 0, -1)", x.speed(0, 0, -1), -1);
        c.due("speed(0, 0, 2)", x.speed(0, 0, 2), -1);
        c.due("speed(0, 0, 1)", x.speed(0, 0, 1), -11);
    }

    private static void refuses(NinetyNine x, int shelf, int due) {
        c.due("judge(" + shelf + ", 0)", x.judge(shelf, 0), due);
        c.due("which(" + shelf + ", 0)", x.which(shelf, 0), due);
        c.due("since(" + shelf + ")", x.since(shelf), due);
        c.due("stuck(" + shelf + ", 0)", x.stuck(shelf, 0), due);
        c.due("speed(" + shelf + ", 0, 0)", x.speed(shelf, 0, 0), due);
    }

    private static void judge() {
        NinetyNine x = Checks.fifteen();
        Checks.row(x, 0, 33, 33, 40, 46, 54);
        c.due("the fifth is not so", x.judge(0, 4), 4);
        c.due("the third is not so", x.judge(0, 2), 2);
        c.due("the first is not so", x.judge(0, 6), 0);
        x.put(0, 4, 53);
        c.due("all so", x.judge(0, 4), -2);
        x.row(1, 0, 0);
        c.due("no elements: all so", x.judge(1, 999), -2);
        Checks.row(x, 2, 100, 100, 100);
        c.due("behind the end", x.judge(2, 500), -2);
        c.due("up to the last second", x.judge(2, 997), -2);
        c.due("beyond the last second", x.judge(2, 998), 2);
        c.due("far beyond", x.judge(2, 999), 1);
        Checks.law(x, "0");
        x.mend(0, 4, 4);
        Checks.row(x, 3, 0, 0, 0);
        c.due("0 up to the last second", x.judge(3, 997), -2);
        c.due("0 is not so beyond it, either", x.judge(3, 998), 2);
        x.undo();
        Checks.row(x, 3, 0, -1);
        c.due("below 0", x.judge(3, 0), 1);
        Checks.row(x, 3, 0, 256 + 16);
        c.due("the lowest bits", x.judge(3, 0), -2);
    }

    private static void which() {
        NinetyNine x = Checks.fifteen();
        x.mend(1, 3, 3);
        // In second 2 files have 25, bytes 33, steps 50, time 13.
        Checks.row(x, 0, 25);
        c.due("files", x.which(0, 2), 1);
        Checks.row(x, 0, 33);
        c.due("bytes, and the law without a text", x.which(0, 2), 2 + 16);
        Checks.row(x, 0, 50);
        c.due("steps", x.which(0, 2), 4);
        Checks.row(x, 0, 13);
        c.due("time", x.which(0, 2), 8);
        Checks.row(x, 0, 14);
        c.due("none", x.which(0, 2), 0);
        Checks.law(x, "n*7");
        c.due("the law", x.which(0, 2), 16);
        Checks.row(x, 0, 33);
        c.due("bytes, not the law", x.which(0, 2), 2);
        Checks.row(x, 0, 100, 100);
        c.due("all but the law", x.which(0, 15), 15);
        c.due("beyond the last second", x.which(0, 999), 0);
        c.due("the measure is as it was", x.of(0, 4), 1);
        x.row(0, 0, 0);
        c.due("no elements", x.which(0, 999), 31);
    }

    private static void since() {
        NinetyNine x = Checks.fifteen();
        Checks.row(x, 0, 33, 33);
        c.due("the least", x.since(0), 2);
        Checks.row(x, 0, 33, 40);
        c.due("later", x.since(0), 5);
        Checks.row(x, 0, 33, 41);
        c.due("never", x.since(0), -2);
        Checks.row(x, 0, 0);
        c.due("at once", x.since(0), 0);
        x.row(0, 0, 0);
        c.due("no elements", x.since(0), 0);
        Checks.row(x, 0, 100, 100);
        c.due("the end", x.since(0), 15);
        Checks.law(x, "l+1%2000");
        x.mend(0, 4, 4);
        Checks.row(x, 0, 98, 99, 100, 100);
        c.due("the law", x.since(0), 97);
        Checks.law(x, "l=99?98;l<99?l+1;99");
        Checks.row(x, 1, 98, 99, 98, 99);
        c.due("up and down", x.since(1), 97);
        NinetyNine late = new NinetyNine();
        for (int piece = 0; piece < 6; piece++) {
            late.piece(99, 1);
            late.mend(piece, 2, 60);
        }
        late.mend(0, 4, 4);
        Checks.law(late, "t<100?0;l+2");
        // LONG is 954: 2 there, 92 in the last second.
        Checks.row(late, 0, 92);
        c.due("in the last second", late.since(0), 999);
        Checks.row(late, 0, 93);
        c.due("not up to the last second", late.since(0), -2);
        Checks.row(late, 0, 90, 92);
        c.due("up to the last second", late.since(0), 998);
        Checks.row(late, 0, 92, 94);
        c.due("not beyond the last second", late.since(0), -2);
        x.mend(0, 4, 1);
        Checks.row(x, 2, 93, 100, 100);
        c.due("over the end", x.since(2), 14);
    }

    private static void stuck() {
        NinetyNine x = Checks.fifteen();
        // 33 in second 2; up to which it stands hangs on the second piece's STUCK.
        Checks.row(x, 0, 33, 33, 33, 40);
        c.due("the second piece by 2", x.stuck(0, 2), 102);
        Checks.row(x, 0, 33, 33, 33, 33, 40);
        c.due("as it is, told anew: the first piece by what it is", x.stuck(0, 2), 0);
        Checks.row(x, 0, 33, 40);
        c.due("by 0", x.stuck(0, 2), 100);
        Checks.row(x, 0, 0, 0, 0, 16, 33, 33, 33, 33, 40);
        c.due("the first piece", x.stuck(0, 0), 2);
        Checks.row(x, 0, 0, 0, 0, 0, 0, 0, 0, 0, 0, 0);
        c.due("the least", x.stuck(0, 0), 9);
        c.due("the least, later", x.stuck(0, 10), 19);
        c.due("the most", x.stuck(0, 51), 60);
        c.due("more than the most", x.stuck(0, 52), -2);
        Checks.row(x, 0, 33);
        c.due("the first piece first", x.stuck(0, 5), 0);
        c.due("the first piece first, by more", x.stuck(0, 8), 3);
        Checks.row(x, 0, 1);
        c.due("never", x.stuck(0, 5), -2);
        c.due("its number is as it was", x.of(1, 2), 3);
        c.due("its number is as it was, of the first", x.of(0, 2), 0);
        x.row(0, 0, 0);
        c.due("no elements", x.stuck(0, 999), 0);
        Checks.row(x, 0, 100, 100);
        c.due("beyond the last second", x.stuck(0, 999), -2);
        NinetyNine empty = new NinetyNine();
        empty.row(0, 0, 0);
        c.due("no pieces", empty.stuck(0, 0), -2);
    }

    private static void speed() {
        NinetyNine x = Checks.fifteen();
        // 12 of 30 bytes in second 6.
        Checks.row(x, 0, 40);
        c.due("as it is", x.speed(0, 6, 1), 2);
        Checks.row(x, 0, 36);
        c.due("slower", x.speed(0, 6, 1), 1);
        Checks.row(x, 0, 63);
        c.due("faster", x.speed(0, 6, 1), 9);
        Checks.row(x, 0, 66);
        c.due("too fast", x.speed(0, 6, 1), -2);
        Checks.row(x, 0, 0, 16, 33);
        c.due("the first", x.speed(0, 0, 0), 5);
        Checks.row(x, 0, 33, 33, 33, 33, 40);
        c.due("the least by which two seconds do", x.speed(0, 2, 0), 5);
        c.due("and one", x.speed(0, 1, 0), -2);
        Checks.row(x, 0, 100);
        c.due("the end, by any", x.speed(0, 35, 0), 1);
        c.due("in time, not by 1", x.speed(0, 15, 0), 5);
        c.due("its speed is as it was", x.of(0, 1), 5);
        x.row(0, 0, 0);
        c.due("no elements", x.speed(0, 999, 1), 1);
        Checks.row(x, 0, 100, 100);
        c.due("beyond the last second", x.speed(0, 999, 0), -2);
    }

    /** What is shown in a second may hang on all seconds ahead of it, whichever second is asked for. */
    private static void seenByTheSecondAhead() {
        NinetyNine x = Checks.fifteen();
        x.mend(0, 5, 4);
        Checks.row(x, 0, 24, 28);
        c.due("smooth: which", x.which(0, 6), 2 + 8 + 16);
        c.due("smooth: speed", x.speed(0, 6, 0), 2);
        c.due("smooth: stuck", x.stuck(0, 6), 0);
        x.mend(0, 5, 0);
        Checks.law(x, "t=13?90;t");
        x.mend(0, 6, 1);
        Checks.row(x, 0, 90, 90);
        c.due("never: which", x.which(0, 10), 16);
        x.mend(0, 4, 4);
        x.mend(1, 2, 4);
        // LONG is 16 and more: 13 per cent of time are shown again by 22, in second 3.
        c.due("never: stuck", x.stuck(0, 10), 6);
        x.mend(0, 6, 0);
        c.due("not never: stuck", x.stuck(0, 10), -2);
        Checks.law(x, "l+3");
        Checks.row(x, 0, 33, 36);
        c.due("l: which", x.which(0, 10), 16);
        c.due("l: speed", x.speed(0, 10, 1), 1);
        c.due("l: stuck", x.stuck(0, 10), 0);
    }

    private static void drawn() {
        NinetyNine x = new NinetyNine();
        x.piece(12, 4);
        // By seed 0: z is 12345, 48 in its upper bytes: 0, halved: 12 by 2 are 6 seconds.
        c.due("halved", x.drawn(0, 1, 1, 0), 6);
        // Then z is -740551042, 13884438 in its upper bytes: 2, its own; then -1492899873, 10945575: 3, doubled.
        c.due("halved, its own (2)", x.drawn(0, 2, 1, 0), 6 + 3);
        c.due("halved, its own, doubled", x.drawn(0, 3, 1, 0), 6 + 3 + 2);
        c.due("doubled", x.drawn(3, 1, 1, 0), 2);
        c.due("its own (1)", x.drawn(seedOf(1), 1, 1, 0), 3);
        c.due("a negative seed", x.drawn(-740551042, 1, 1, 0), 2);
        x.mend(0, 1, 1);
        c.due("1 at least", x.drawn(0, 1, 1, 0), 12);
        x.mend(0, 1, 5);
        c.due("halved, cut", x.drawn(0, 1, 1, 0), 6);
        x.mend(0, 1, 9);
        x.mend(0, 0, 90);
        c.due("doubled beyond 9", x.drawn(3, 1, 1, 0), 5);
        x.mend(0, 2, 7);
        c.due("stuck as it was", x.drawn(3, 1, 1, 0), 12);
        c.due("its speed is as it was", x.of(0, 1), 9);
        c.due("dead by 7", x.drawn(3, 1, 7, 1), 1);
        c.due("not by 8", x.drawn(3, 1, 8, 1), 0);
        c.due("dead each time", x.drawn(5, 30, 7, 1), 30);
        c.due("never dead", x.drawn(5, 30, 8, 1), 0);
        x.piece(12, 4);
        // A draw for each piece: by seed 0 the first is halved, the second has its own: 7 + 23, 3.
        c.due("a draw each", x.drawn(0, 1, 1, 0), 7 + 23 + 3);
        c.due("drawn(0, 0, 1, 0)", x.drawn(0, 0, 1, 0), -1);
        c.due("drawn(0, 31, 1, 0)", x.drawn(0, 31, 1, 0), -1);
        c.due("drawn(0, 1, 0, 0)", x.drawn(0, 1, 0, 0), -1);
        c.due("drawn(0, 1, 1000, 0)", x.drawn(0, 1, 1000, 0), -1);
        c.due("drawn(0, 1, 1, -1)", x.drawn(0, 1, 1, -1), -1);
        c.due("drawn(0, 1, 1, 2)", x.drawn(0, 1, 1, 2), -1);
        c.due("by the same seed the same", x.drawn(0, 1, 999, 0), 7 + 23 + 3);
        NinetyNine empty = new NinetyNine();
        c.due("no pieces", empty.drawn(Integer.MIN_VALUE, 30, 1, 0), 0);
        c.due("no pieces, none dead", empty.drawn(Integer.MIN_VALUE, 30, 1, 1), 0);
        halvedAndDead();
    }

    /** Slower, the bar stands: of 40 bytes that come by 1 a second each per cent stands for less than a second. */
    private static void halvedAndDead() {
        NinetyNine x = new NinetyNine();
        x.piece(99, 2);
        x.piece(99, 2);
        c.due("own: shows another per cent each second", x.dead(1, 0), -2);
        // Of 198 bytes, 1 a second (halved) stands for two seconds now and then; 2 or 4 never do.
        int z = 7;
        int dead = 0;
        int seconds = 0;
        for (int wait = 0; wait < 12; wait++) {
            boolean halved = false;
            for (int piece = 0; piece < 2; piece++) {
                z = z * 1103515245 + 12345;
                int draw = (z >>> 8) % 4;
                halved |= draw == 0;
                seconds += draw == 0 ? 99 : draw == 3 ? 25 : 50;
            }
            dead += halved ? 1 : 0;
        }
        c.due("as often as one was halved", x.drawn(7, 12, 1, 1), dead);
        c.due("seconds of all", x.drawn(7, 12, 1, 0), seconds);
        c.that("some were, some not", dead > 0 && dead < 12);
    }

    private static int seedOf(int draw) {
        for (int seed = 0; seed < 1000; seed++) {
            if (((seed * 1103515245 + 12345) >>> 8) % 4 == draw) {
                return seed;
            }
        }
        return -1;
    }
}
