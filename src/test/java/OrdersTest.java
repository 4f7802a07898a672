/** Promises 17 to 22: orders, and lies. */
public final class OrdersTest {
    private static final Checks c = new Checks();

    public static void main(String[] args) {
        order();
        orderOfLikeOnes();
        orderFollowsWhatIsTold();
        told();
        where();
        measure();
        pleases();
        trust();
        c.finish();
    }

    /** Three pieces whose orders tell: by steps the bar runs evenly if the longest goes first or last, not between. */
    private static NinetyNine three() {
        NinetyNine x = new NinetyNine();
        x.piece(2, 2);
        x.piece(6, 1);
        x.piece(3, 1);
        x.mend(0, 4, 2);
        return x;
    }

    private static void order() {
        NinetyNine x = three();
        // By steps, LONG 10, per cent of time 10 a second. Orders of 1, 6, 3 seconds and their sums:
        // 1 6 3: 0 33 33 33 33 33 33 66 66 66 100: 0 23 13 3 7 17 27 4 14 24 0 = 132
        // 1 3 6: 0 33 33 33 66 66 66 66 66 66 100: 0 23 13 3 26 16 6 4 14 24 0 = 129
        // 6 1 3: 0 0 0 0 0 0 33 66 66 66 100: 0 10 20 30 40 50 27 4 14 24 0 = 219
        // 6 3 1: 0 0 0 0 0 0 33 33 33 66 100: 0 10 20 30 40 50 27 37 47 24 0 = 285
        // 3 1 6: 0 0 0 33 66 66 66 66 66 66 100: 0 10 20 3 26 16 6 4 14 24 0 = 123
        // 3 6 1: 0 0 0 33 33 33 33 33 33 66 100: 0 10 20 3 7 17 27 37 47 24 0 = 192
        c.due("as it is", x.off(1), 132);
        c.due("the least", x.order(-1), 123);
        c.due("first", x.order(0), 2);
        c.due("second", x.order(1), 0);
        c.due("third", x.order(2), 1);
        c.due("not as many", x.order(3), -2);
        c.due("not as many by far", x.order(Integer.MAX_VALUE), -2);
        c.due("order(-2)", x.order(-2), -1);
        c.due("order(MIN)", x.order(Integer.MIN_VALUE), -1);
        c.due("nothing was moved", x.of(0, 0), 2);
        c.due("nothing was moved in what is shown", x.off(1), 132);
        x.piece(1, 1);
        x.piece(1, 1);
        c.due("five are not too many", x.order(5), -2);
        c.that("five give an order", x.order(-1) >= 0);
        x.piece(1, 1);
        c.due("six are", x.order(-1), -5);
        c.due("six are, for the first", x.order(0), -5);
        c.due("six, BAD too", x.order(-2), -1);
        NinetyNine empty = new NinetyNine();
        c.due("no pieces", empty.order(-1), 0);
        c.due("no first", empty.order(0), -2);
    }

    private static void orderOfLikeOnes() {
        NinetyNine x = new NinetyNine();
        for (int i = 0; i < 5; i++) {
            x.piece(5, 1);
        }
        for (int k = 0; k < 5; k++) {
            c.due("all alike: " + k, x.order(k), k);
        }
        x.mend(0, 4, 2);
        x.mend(4, 0, 6);
        x.mend(0, 0, 6);
        NinetyNine y = three();
        y.mend(1, 0, 3);
        // 1 3 3 seconds: 3 1 3 is 0 0 0 33 66 66 66 100, by 7: 0 14 28 42 57 71 85: 0 14 28 9 9 5 19 = 84;
        // 1 3 3: 0 33 33 33 66 66 66 100: 0 19 5 9 9 5 19 = 66; 3 3 1: 0 0 0 33 33 33 66 100: 14 28 9 24 38 19 = 132.
        c.due("the first of like ones", y.order(-1), 66);
        c.due("the first of like ones: first", y.order(0), 0);
        c.due("the first of like ones: second", y.order(1), 1);
        c.due("the first of like ones: third", y.order(2), 2);
    }

    private static void orderFollowsWhatIsTold() {
        NinetyNine x = three();
        c.due("at first", x.order(-1), 123);
        x.mend(0, 4, 3);
        c.due("by time", x.order(-1), 0);
        c.due("by time: the first order", x.order(0), 0);
        x.undo();
        c.due("undone", x.order(0), 2);
        Checks.law(x, "t");
        x.mend(0, 4, 4);
        c.due("by the law", x.order(-1), 0);
        Checks.law(x, "s");
        c.due("by another law", x.order(-1), 123);
        x.mend(1, 0, 3);
        c.due("mended", x.order(-1), 66);
        x.piece(4, 1);
        c.due("a fourth", x.order(4), -2);
        c.that("a fourth has a place", x.order(0) + x.order(1) + x.order(2) + x.order(3) == 6);
    }

    private static void told() {
        NinetyNine x = three();
        c.due("told(-1)", x.told(-1), -1);
        c.due("told(6)", x.told(6), -1);
        c.due("nothing is there", x.told(0), -11);
        x.row(0, 1, 2);
        c.due("a row of shorts", x.told(0), -12);
        x.row(0, 4, 2);
        c.due("a row of booleans", x.told(0), -12);
        x.keep(0, x.body(3));
        c.due("a step", x.told(0), -12);
        tells(x, 132);
        tells(x, 132, 0, 1, 2);
        tells(x, 129, 0, 2, 1);
        tells(x, 219, 1, 0, 2);
        tells(x, 285, 1, 2, 0);
        tells(x, 123, 2, 0, 1);
        tells(x, 192, 2, 1, 0);
        tells(x, 129, 0, 2);
        tells(x, 123, 2);
        tells(x, 219, 1);
        tells(x, 192, 2, 2, 1, 2);
        tells(x, 192, 3, -1, 2, 127, 1, -128);
        tells(x, 285, 256 + 1, 5, 2);
        c.due("nothing was moved", x.off(1), 132);
        NinetyNine six = new NinetyNine();
        for (int i = 0; i < 6; i++) {
            six.piece(9, i + 1);
        }
        Checks.row(six, 0, 5, 4, 3, 2, 1, 0, 5);
        c.that("six pieces can be told", six.told(0) >= 0);
        NinetyNine empty = new NinetyNine();
        Checks.row(empty, 0, 0, 1);
        c.due("no pieces", empty.told(0), 0);
    }

    private static void tells(NinetyNine x, int sum, long... order) {
        Checks.row(x, 5, order);
        c.due("told " + java.util.Arrays.toString(order), x.told(5), sum);
    }

    private static void where() {
        NinetyNine x = three();
        // The six bytes at place 0: 219, at 1: 132, at 2: 129.
        c.due("the place", x.where(0), 2);
        c.due("that", x.where(1), 129);
        // Stands: 0 0 0 0 0 0 is 6 long at place 0; 33 six times at 1; 66 six times at 2.
        c.due("by stands, all alike", x.where(2), 0);
        c.due("where(-1)", x.where(-1), -1);
        c.due("where(3)", x.where(3), -1);
        NinetyNine empty = new NinetyNine();
        for (int what = 0; what <= 2; what++) {
            c.due("no pieces: " + what, empty.where(what), -2);
        }
        c.due("no pieces, BAD too", empty.where(3), -1);
        NinetyNine like = new NinetyNine();
        like.piece(1, 1);
        like.piece(9, 3);
        like.piece(9, 9);
        like.mend(0, 4, 2);
        // The first of the two of nine bytes moves: 3 1 1 seconds: 0 0 0 33 66 100 by 20: 0 20 40 27 14 0 = 101;
        // 1 3 1: 0 33 33 33 66 100: 0 13 7 27 14 0 = 61; 1 1 3: 0 33 66 66 66 100: 0 13 26 6 14 0 = 59.
        c.due("of like ones the least", like.where(1), 59);
        c.due("of like ones the least: place", like.where(0), 2);
        NinetyNine stands = new NinetyNine();
        stands.piece(50, 5);
        stands.piece(10, 5);
        stands.piece(20, 5);
        stands.mend(0, 4, 0);
        // 10, 2, 4 seconds by files: 10 are the longest stand at each place, of 33 at the second: all alike.
        c.due("by stands, like ones", stands.where(2), 0);
        stands.mend(1, 3, 0);
        // Files 1 0 1: first: 10 of 0, 6 of 50, then 100; between: 12 of 0; last: 6 of 0, 10 of 50.
        c.due("by stands, between is worse", stands.where(2), 0);
        stands.mend(1, 3, 1);
        stands.mend(0, 3, 0);
        // Files 0 1 1: first: 12 of 0; between: 2 of 0, 14 of 50; last: 2 of 0, 4 of 50, then 11 of 100.
        c.due("by stands, last is best", stands.where(2), 2);
        stands.mend(2, 3, 0);
        // Files 0 1 0: first: 12 of 0, 5 of 100; between and last: 2 of 0, 15 of 100.
        c.due("by stands, first is best", stands.where(2), 0);
        stands.mend(1, 2, 3);
        stands.mend(0, 1, 9);
        stands.mend(2, 3, 1);
        // 6, 5, 4 seconds, files 0 1 1: first: 11 of 0; between: 5 of 0, 10 of 50; last: 5, 4, 7.
        c.due("by stands, last again", stands.where(2), 2);
        c.due("what where(0) finds does not hang on it", stands.where(0) >= 0 ? 1 : 0, 1);
        c.due("told first", stands.where(1) <= tellsSum(stands, 0, 1, 2) ? 1 : 0, 1);
        c.due("told at the place", stands.where(1), stands.where(0) == 0 ? tellsSum(stands, 0, 1, 2)
            : stands.where(0) == 1 ? tellsSum(stands, 1, 0, 2) : tellsSum(stands, 1, 2, 0));
    }

    private static int tellsSum(NinetyNine x, long... order) {
        Checks.row(x, 4, order);
        return x.told(4);
    }

    private static void measure() {
        NinetyNine x = three();
        c.due("by off", x.measure(0), 3);
        c.due("by 99, all alike", x.measure(1), 0);
        c.due("measure(-1)", x.measure(-1), -1);
        c.due("measure(2)", x.measure(2), -1);
        c.due("the measure is as it was", x.of(0, 4), 2);
        x.mend(0, 5, 9);
        x.mend(0, 6, 1);
        // No more than 9 a second: time is 9 18 27 .., and so are bytes, which would come faster.
        c.due("smoothed, bytes are as near as time", x.measure(0), 1);
        NinetyNine even = new NinetyNine();
        even.piece(10, 1);
        c.due("bytes are as near as time", even.measure(0), 1);
        even.mend(0, 0, 99);
        c.due("at 99 by files: never", even.measure(1), 0);
        Checks.law(even, "99");
        even.mend(0, 4, 4);
        c.due("not by the law", even.measure(1), 0);
        even.mend(0, 5, 9);
        c.due("smoothed", even.measure(1), 0);
        even.mend(0, 3, 0);
        // No files: 9, 18, .. 99, 100: one second at 99. 98 of 99 bytes are 98 per cent.
        c.due("bytes are never at 99", even.measure(1), 1);
        even.piece(99, 1);
        even.mend(1, 3, 0);
        // 197 of 198 bytes are 99 per cent; time is, too.
        c.due("steps are never at 99", even.measure(1), 2);
        NinetyNine first = new NinetyNine();
        c.due("no pieces: like ones", first.measure(0), 0);
    }

    private static void pleases() {
        NinetyNine x = three();
        // 0 33 33 33 33 33 33 66 66 66 100: 33 * 1 + 33 * 7 + 34 * 10.
        c.due("that", x.pleases(0), 33 + 231 + 340);
        c.due("pleases(-1)", x.pleases(-1), -2000000000);
        c.due("pleases(2)", x.pleases(2), -2000000000);
        // Smoothed by s: s a second up to 33, and so on: by 9: 9 18 27 33 33 33 42 51 60 69:
        // 9 * (1 + 2 + 3) + 6 * 4 + 9 * (7 + 8 + 9 + 10) = 384; by 8: 8 * (1 .. 4) + 1 * 5 + 8 * 34 = 80 + 5 + 272;
        // by 5: 5 * (1 .. 6) + 5 * 34 = 275; none smooth: 604.
        c.due("the smooth that pleases most", x.pleases(1), 0);
        c.due("smooth is as it was", x.of(0, 5), 0);
        x.mend(0, 5, 9);
        c.due("that, by smooth as it is", x.pleases(0), 384);
        c.due("the same smooth", x.pleases(1), 0);
        Checks.law(x, "t<10?100;0");
        x.mend(0, 4, 4);
        // Smoothed by 9: 9 in second 0, then 0: 9 less in second 1.
        c.due("below 0", x.pleases(0), -9);
        // By 0: 100 less; by s: s less: by 1 it is least bad.
        c.due("least below 0", x.pleases(1), 1);
        Checks.law(x, "40");
        // Shown at once: nothing is more than the second ahead. By 9: 9 18 27 36 40: 9 * (1 + 2 + 3) + 4 * 4 = 70;
        // by 4: 4 * (1 .. 9) = 180; by 3: 3 * (1 .. 10) = 165; by 5: 5 * (1 .. 7) = 140.
        c.due("the smooth between", x.pleases(1), 4);
        x.mend(0, 5, 4);
        c.due("by it", x.pleases(0), 180);
        Checks.law(x, "0");
        c.due("like ones", x.pleases(1), 0);
        c.due("nothing rises", x.pleases(0), 0);
    }

    private static void trust() {
        NinetyNine x = Checks.fifteen();
        // The greatest off is 20: less 10, and 10 more.
        c.due("as at first", x.trust(20, 0), 50);
        c.due("never below", x.trust(20, 1), -2);
        x.mend(0, 4, 2);
        // 43: less 21, 10 more: 39, 28, 17, 6, 0.
        c.due("once", x.trust(1, 0), 39);
        c.due("twice", x.trust(2, 0), 28);
        c.due("three times", x.trust(3, 0), 17);
        c.due("five times: held at 0", x.trust(5, 0), 0);
        c.due("twenty times", x.trust(20, 0), 0);
        c.due("not within two", x.trust(2, 1), -2);
        c.due("the third time", x.trust(3, 1), 3);
        c.due("the third time of twenty", x.trust(20, 1), 3);
        x.mend(0, 4, 3);
        c.due("10 more", x.trust(1, 0), 60);
        c.due("five times 10 more", x.trust(5, 0), 100);
        c.due("held at 100", x.trust(6, 0), 100);
        c.due("trust(0, 0)", x.trust(0, 0), -1);
        c.due("trust(21, 0)", x.trust(21, 0), -1);
        c.due("trust(1, -1)", x.trust(1, -1), -1);
        c.due("trust(1, 2)", x.trust(1, 2), -1);
        x.mend(0, 4, 4);
        Checks.law(x, "100-t");
        c.due("once and for all", x.trust(1, 0), 10);
        c.due("the first time", x.trust(1, 1), 1);
        NinetyNine edge = new NinetyNine();
        edge.piece(50, 1);
        edge.mend(0, 4, 4);
        Checks.law(edge, "t=0?50;t");
        // 50: less 25, 10 more: 35, 20, 5: 20 is not below 20.
        c.due("twenty is not below", edge.trust(2, 1), -2);
        c.due("twenty", edge.trust(2, 0), 20);
        c.due("five is", edge.trust(3, 1), 3);
    }
}
