/** Compares answers with those that are due, and ends the run with exit code 1 if one was not. */
final class Checks {
    private int asked = 0;
    private int wrong = 0;

    void due(String call, long got, long want) {
        asked++;
        if (got != want) {
            wrong++;
            System.out.println(call + " answered " + got + ", due is " + want);
        }
    }

    void that(String what, boolean holds) {
        asked++;
        if (!holds) {
            wrong++;
            System.out.println(what);
        }
    }

    void finish() {
        System.out.println(asked + " answers, " + wrong + " of them not as due");
        if (wrong != 0) {
            System.exit(1);
        }
    }

    /** The fifteen seconds by which most tests ask: 10 bytes in 2 seconds, then 3 stuck ones, then 20 bytes in 10. */
    static NinetyNine fifteen() {
        NinetyNine x = new NinetyNine();
        x.piece(10, 5);
        x.piece(20, 2);
        x.mend(1, 2, 3);
        return x;
    }

    static int law(NinetyNine x, String text) {
        for (int i = 0; i < text.length(); i++) {
            x.feed(text.charAt(i));
        }
        return x.law();
    }

    static void row(NinetyNine x, int shelf, long... values) {
        x.row(shelf, 0, values.length);
        for (int i = 0; i < values.length; i++) {
            x.put(shelf, i, values[i]);
        }
    }
}
