/** Promises 37 to 39: bodies, their acts, the trace. */
public final class ActsTest {
    private static final Checks c = new Checks();
    private static final NinetyNine x = new NinetyNine();

    public static void main(String[] args) {
        theSame();
        body();
        everyAct();
        noAct();
        trace();
        wraps();
        c.finish();
    }

    /** Number n is of kind n % 8, so that numbers tell. */
    private static void body() {
        c.due("body(-1)", x.body(-1), -1);
        c.due("body(8)", x.body(8), -1);
        c.due("no such body", x.act(0, 0, 7), 0);
        for (int n = 0; n < 50; n++) {
            c.due("body " + n, x.body(n % 8), n);
        }
        c.due("the fifty-first", x.body(0), -3);
        c.due("the fifty-first, BAD", x.body(8), -1);
        c.due("count(3)", x.count(3), 50);
    }

    private static void everyAct() {
        // STEP, number 8, x 5: fills 13, shows 26, stands 5 ^ 8 = 13; tells 26 - (1 ^ 8) = 17.
        acts(8, 0, 5, 13, 1);
        acts(8, 1, 5, 26, 10, 1);
        acts(8, 2, 5, 13, 11);
        acts(8, 3, 5, 17, 2, 10, 1, 11);
        // FILE, number 9: fills 5 + 9 + 3, shows twice that, stands 5 ^ 9; tells 34 - (1 ^ 9).
        acts(9, 0, 5, 17, 20, 1);
        acts(9, 1, 5, 34, 10, 20, 1);
        acts(9, 2, 5, 12, 11);
        acts(9, 3, 5, 26, 2, 10, 20, 1, 11);
        // BYTE, number 10: fills 15, shows -30, stands 5 ^ 10; tells -30 - (1 ^ 10).
        acts(10, 0, 5, 15, 1);
        acts(10, 1, 5, -30, 30, 10, 1);
        acts(10, 2, 5, 15, 11);
        acts(10, 3, 5, -41, 2, 30, 10, 1, 11);
        // WHEEL, number 11: fills 16, shows as BYTE of 6: -34, stands (5 ^ 11) * 3; tells -34 - (1 ^ 11) * 3.
        acts(11, 0, 5, 16, 1);
        acts(11, 1, 5, -34, 41, 30, 10, 1);
        acts(11, 2, 5, 42, 40, 11);
        acts(11, 3, 5, -64, 2, 41, 30, 10, 1, 40, 11);
        // LIE, number 12: fills 20, shows 40, stands (5 ^ 12) - (2 + 12 + 3); tells 40 - ((1 ^ 12) - 17).
        acts(12, 0, 5, 20, 20, 1);
        acts(12, 1, 5, 40, 10, 20, 1);
        acts(12, 2, 5, -8, 50, 11, 20, 1);
        acts(12, 3, 5, 44, 2, 10, 20, 1, 50, 11, 20, 1);
        // TEA, number 13: as WHEEL: fills 18, shows -2 * (6 + 13), stands (5 ^ 13) * 3; tells (-38 - 12 * 3) ^ 5.
        acts(13, 0, 5, 18, 1);
        acts(13, 1, 5, -38, 41, 30, 10, 1);
        acts(13, 2, 5, 24, 40, 11);
        acts(13, 3, 5, -74 ^ 5, 60, 2, 41, 30, 10, 1, 40, 11);
        // CANCEL, number 14: fills 38, shows 76, stands 5 ^ 14; tells 76 - (1 ^ 14).
        acts(14, 0, 5, 38, 70, 1);
        acts(14, 1, 5, 76, 10, 70, 1);
        acts(14, 2, 5, 11, 11);
        acts(14, 3, 5, 61, 2, 10, 70, 1, 11);
        // CENT, number 15: fills 23; stands (5 ^ 15) - 20; shows 46 + ((2 ^ 15) - 20); tells 39 - ((1 ^ 15) - 20) - 1.
        acts(15, 0, 5, 23, 20, 1);
        acts(15, 1, 5, 39, 80, 10, 20, 1, 50, 11, 20, 1);
        acts(15, 2, 5, -10, 50, 11, 20, 1);
        acts(15, 3, 5, 44, 81, 2, 80, 10, 20, 1, 50, 11, 20, 1, 50, 11, 20, 1);
    }

    private static void acts(int body, int act, int with, int due, int... bodies) {
        String call = "act(" + body + ", " + act + ", " + with + ")";
        c.due(call, x.act(body, act, with), due);
        c.due(call + ": how many ran", x.count(4), bodies.length);
        for (int i = 0; i < bodies.length; i++) {
            c.due(call + ": trace " + i, x.trace(i), bodies[i]);
        }
        c.due(call + ": no more", x.trace(bodies.length), -1);
    }

    private static void noAct() {
        acts(15, 3, 5, 44, 81, 2, 80, 10, 20, 1, 50, 11, 20, 1, 50, 11, 20, 1);
        acts(50, 0, 5, 0);
        acts(15, 0, 5, 23, 20, 1);
        acts(-1, 0, 5, 0);
        acts(15, 0, 5, 23, 20, 1);
        acts(15, 4, 5, 0);
        acts(15, 0, 5, 23, 20, 1);
        acts(15, -1, 5, 0);
        acts(Integer.MAX_VALUE, Integer.MIN_VALUE, 5, 0);
    }

    private static void trace() {
        x.act(8, 3, 1);
        c.due("trace(-1)", x.trace(-1), -1);
        c.due("trace(MIN)", x.trace(Integer.MIN_VALUE), -1);
        c.due("trace(MAX)", x.trace(Integer.MAX_VALUE), -1);
        c.due("trace(24)", x.trace(24), -1);
        x.keep(0, 8);
        x.body(9);
        c.due("the latest act's trace stays", x.trace(0), 2);
        c.due("another object's trace", new NinetyNine().trace(0), -1);
    }

    private static void wraps() {
        int max = Integer.MAX_VALUE;
        acts(1, 0, max, max + 4, 20, 1);
        acts(8, 1, max, (max + 8) * 2, 10, 1);
        acts(3, 1, max, -((max + 1 + 3) * 2), 41, 30, 10, 1);
        acts(2, 1, -1 << 30, -(((-1 << 30) + 2) * 2), 30, 10, 1);
        acts(0, 1, 1 << 30, Integer.MIN_VALUE, 10, 1);
        acts(3, 2, max, (max ^ 3) * 3, 40, 11);
        acts(6, 0, max, (max + 6) * 2, 70, 1);
    }

    private static void theSame() {
        NinetyNine zero = new NinetyNine();
        for (int kind = 7; kind >= 0; kind--) {
            zero.body(kind);
        }
        c.due("the number is the body's, not the kind's", zero.act(0, 0, 1), 4);
        c.due("of the last", zero.act(7, 0, 1), 8);
    }
}
