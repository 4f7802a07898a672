/** Promises 1 to 46: runs of calls as they fall, each answer compared with that of the Oracle; and no call throws. */
public final class OracleTest {
    private static final int RUNS = 600;

    public static void main(String[] args) {
        Checks c = new Checks();
        for (int run = 0; run < RUNS; run++) {
            one(new Compared(c, run * 7919L + 1), run);
        }
        c.finish();
    }

    private static void one(Compared both, int run) {
        int small = both.random.nextInt(3);
        for (int i = both.random.nextInt(6); i > 0; i--) {
            both.piece(small);
        }
        // In every fourth run most calls are changes, so that more come than are kept.
        int kinds = run % 4 == 0 ? 14 : 100;
        while (both.made < 300) {
            both.one(both.random.nextInt(kinds), small);
        }
    }
}
