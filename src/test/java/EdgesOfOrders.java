import java.util.ArrayList;
import java.util.List;

/** The terms' third part up to TRUST, and promises 17 to 22: orders, places, measures, lies, trust. */
final class EdgesOfOrders {
    private static final int MIN = Integer.MIN_VALUE;
    private static final int MAX = Integer.MAX_VALUE;
    private final Sentences s;

    private EdgesOfOrders(Sentences s) {
        this.s = s;
    }

    static void ask(Sentences s) {
        EdgesOfOrders edges = new EdgesOfOrders(s);
        edges.order();
        edges.told();
        edges.where();
        edges.measure();
        edges.pleases();
        edges.trust();
    }

    /** PIECES by threes of BYTES, SPEED, STUCK, in an order. */
    private static NinetyNine bar(int[][] pieces, int measure, List<Integer> order) {
        NinetyNine x = new NinetyNine();
        for (int number : order) {
            x.piece(pieces[number][0], pieces[number][1]);
            x.mend(x.count(0) - 1, 2, pieces[number][2]);
        }
        x.mend(0, 4, measure);
        return x;
    }

    private static List<Integer> byNumbers(int many) {
        List<Integer> order = new ArrayList<>();
        for (int number = 0; number < many; number++) {
            order.add(number);
        }
        return order;
    }

    private static NinetyNine bar(int[][] pieces, int measure) {
        return bar(pieces, measure, byNumbers(pieces.length));
    }

    /** Orders by numbers: those that begin with a lesser one are ahead. */
    private static void orders(int many, List<Integer> begun, List<List<Integer>> all) {
        if (begun.size() == many) {
            all.add(new ArrayList<>(begun));
        }
        for (int number = 0; number < many; number++) {
            if (!begun.contains(number)) {
                begun.add(number);
                orders(many, begun, all);
                begun.remove(begun.size() - 1);
            }
        }
    }

    /** That the order found is the first of the least, of bars that are told in each order anew. */
    private void evenest(String what, int[][] pieces, int measure, int... due) {
        List<List<Integer>> all = new ArrayList<>();
        orders(pieces.length, new ArrayList<>(), all);
        List<Integer> first = all.get(0);
        int least = bar(pieces, measure, first).off(1);
        for (List<Integer> order : all) {
            int sum = bar(pieces, measure, order).off(1);
            if (sum < least) {
                least = sum;
                first = order;
            }
        }
        NinetyNine x = bar(pieces, measure);
        s.due(what + ": that", x.order(-1), least);
        for (int k = 0; k < pieces.length; k++) {
            s.due(what + ": number " + k, x.order(k), first.get(k));
            s.due(what + ": as it was thought of, number " + k, first.get(k), due[k]);
        }
        s.due(what + ": no more", x.order(pieces.length), -2);
        s.due(what + ": nothing is moved", x.of(0, 0), pieces[0][0]);
    }

    private void order() {
        s.says("ORDER: of all orders of PIECES (5 at most, else STATE) that by which OFF (the sum) is least (of like ones the first): "
            + "that; the k-th PIECE.");
        NinetyNine empty = new NinetyNine();
        s.due("no PIECES: that", empty.order(-1), 0);
        s.due("no PIECES: the first", empty.order(0), -2);
        evenest("one", new int[][] {{5, 5, 9}}, 1, 0);
        evenest("two", new int[][] {{20, 1, 0}, {20, 9, 0}}, 2, 1, 0);
        evenest("two alike", new int[][] {{20, 3, 0}, {20, 3, 0}}, 2, 0, 1);
        evenest("the first but one", new int[][] {{2, 2, 0}, {6, 1, 0}, {3, 1, 0}}, 2, 2, 0, 1);
        evenest("two of three alike", new int[][] {{1, 1, 0}, {3, 1, 0}, {3, 1, 0}}, 2, 0, 1, 2);
        evenest("four", new int[][] {{30, 4, 5}, {80, 9, 0}, {12, 1, 20}, {55, 6, 3}}, 1, 3, 2, 1, 0);
        evenest("five alike", new int[][] {{5, 1, 0}, {5, 1, 0}, {5, 1, 0}, {5, 1, 0}, {5, 1, 0}}, 1, 0, 1, 2, 3, 4);
        evenest("the last of 120", new int[][] {{4, 1, 0}, {11, 5, 0}, {4, 1, 4}, {23, 8, 1}, {1, 4, 2}}, 1, 4, 3, 2, 1, 0);
        evenest("five", new int[][] {{9, 9, 9}, {30, 2, 0}, {7, 1, 30}, {60, 3, 4}, {2, 1, 1}}, 1, 0, 3, 2, 1, 4);
        NinetyNine six = new NinetyNine();
        for (int number = 0; number <= 5; number++) {
            s.due(number + " PIECES are not too many", six.order(-1), 0);
            six.piece(1, 1);
        }
        for (int k = -1; k <= 5; k++) {
            s.due("six: order(" + k + ")", six.order(k), -5);
        }
        s.says("`int order(int k)`: ORDER: that (k -1), the k-th. BAD; STATE; NOT: there are not as many.");
        NinetyNine three = bar(new int[][] {{2, 2, 0}, {6, 1, 0}, {3, 1, 0}}, 2);
        s.due("that", three.order(-1), 123);
        s.due("the last", three.order(2), 1);
        for (int k : new int[] {3, 4, 5, 6, 99, MAX}) {
            s.due("not as many: order(" + k + ")", three.order(k), -2);
            s.due("STATE ahead of NOT as they are named: order(" + k + ")", six.order(k), -5);
        }
        for (int k : new int[] {-2, -3, MIN}) {
            s.due("order(" + k + ")", three.order(k), -1);
            s.due("BAD ahead of STATE: order(" + k + ")", six.order(k), -1);
            s.due("BAD ahead of NOT: order(" + k + ")", empty.order(k), -1);
        }
    }

    private void tells(String what, NinetyNine x, int sum, long... row) {
        Checks.row(x, 5, row);
        s.due(what + " " + java.util.Arrays.toString(row), x.told(5), sum);
    }

    private void told() {
        s.says("AS TOLD: OFF (the sum) by a ROW of bytes on a SHELF: PIECES in that order (as far as such there are, each once), "
            + "the others behind by numbers.");
        NinetyNine x = bar(new int[][] {{2, 2, 0}, {6, 1, 0}, {3, 1, 0}}, 2);
        // 0 1 2: 132, 0 2 1: 129, 1 0 2: 219, 1 2 0: 285, 2 0 1: 123, 2 1 0: 192, worked out in OrdersTest.
        tells("an empty ROW", x, 132);
        tells("all in that order", x, 285, 1, 2, 0);
        tells("the others behind", x, 219, 1);
        tells("the others behind, by numbers", x, 123, 2);
        tells("the one behind", x, 129, 0, 2);
        tells("each once", x, 192, 2, 2, 1, 1, 2, 0);
        tells("no piece 3", x, 123, 3, 2);
        tells("no piece -1", x, 123, -1, 2);
        tells("nor further off", x, 192, 127, 2, -128, 6, 1, 5);
        tells("none of them", x, 132, 3, 4, 5, -1);
        tells("by the lowest bits", x, 192, 256 + 2, 512 + 1);
        x.row(5, 0, 60);
        for (int i = 0; i < 60; i++) {
            x.put(5, i, 9);
        }
        x.put(5, 59, 2);
        s.due("the last of sixty", x.told(5), 123);
        x.put(5, 0, 1);
        s.due("the first and the last of sixty", x.told(5), 285);
        tells("no PIECES", new NinetyNine(), 0, 0, 1, 2);
        tells("no PIECES, an empty ROW", new NinetyNine(), 0);
        int[][] six = {{9, 1, 0}, {9, 2, 0}, {9, 3, 7}, {9, 4, 0}, {30, 5, 0}, {9, 6, 0}};
        tells("six", bar(six, 1), bar(six, 1, List.of(5, 4, 3, 2, 1, 0)).off(1), 5, 4, 3, 2, 1);
        tells("six, the last first", bar(six, 1), bar(six, 1, List.of(5, 0, 1, 2, 3, 4)).off(1), 5);
        s.says("`int told(int shelf)`: AS TOLD. BAD, -11, -12 (no ROW of bytes).");
        s.due("AS TOLD", x.told(5), 285);
        for (int shelf : new int[] {-1, 6, MIN, MAX}) {
            s.due("told(" + shelf + ")", x.told(shelf), -1);
        }
        s.due("nothing", x.told(0), -11);
        for (int sort = 1; sort <= 4; sort++) {
            x.row(0, sort, 3);
            s.due("a ROW of sort " + sort, x.told(0), -12);
            x.row(0, sort, 0);
            s.due("an empty ROW of sort " + sort, x.told(0), -12);
        }
        x.keep(0, x.body(0));
        s.due("a STEP", x.told(0), -12);
        x.keep(0, -1);
        s.due("nothing again", x.told(0), -11);
    }

    /** By bars that are told anew with the piece of most bytes at each place. */
    private void places(String what, int[][] pieces, int measure, int big, int duePlace, int dueByStands) {
        NinetyNine x = bar(pieces, measure);
        int place = 0;
        int byStands = 0;
        int[] sums = new int[pieces.length];
        int[] stands = new int[pieces.length];
        for (int at = 0; at < pieces.length; at++) {
            List<Integer> order = byNumbers(pieces.length);
            order.remove(Integer.valueOf(big));
            order.add(at, big);
            NinetyNine other = bar(pieces, measure, order);
            sums[at] = other.off(1);
            stands[at] = other.standing(0);
            place = sums[at] < sums[place] ? at : place;
            byStands = stands[at] < stands[byStands] ? at : byStands;
        }
        s.due(what + ": the place", x.where(0), place);
        s.due(what + ": that", x.where(1), sums[place]);
        s.due(what + ": by STANDS", x.where(2), byStands);
        s.due(what + ": as it was thought of, the place", place, duePlace);
        s.due(what + ": as it was thought of, by STANDS", byStands, dueByStands);
    }

    private void where() {
        s.says("WHERE: the PIECE of most BYTES (of like ones the least) at each place, the others by numbers: by which place OFF "
            + "(the sum) is least (of like ones the first); that; by which place STANDS is shortest (of like ones the first).");
        places("one", new int[][] {{7, 2, 3}}, 1, 0, 0, 0);
        places("all alike", new int[][] {{7, 2, 3}, {7, 2, 3}, {7, 2, 3}}, 1, 0, 0, 0);
        places("the last place", new int[][] {{2, 2, 0}, {6, 1, 0}, {3, 1, 0}}, 2, 1, 2, 0);
        places("of like ones the least", new int[][] {{1, 1, 0}, {9, 3, 0}, {9, 9, 0}}, 2, 1, 2, 0);
        places("of like ones the least, 0", new int[][] {{9, 9, 9}, {9, 1, 0}, {3, 1, 0}}, 1, 0, 2, 0);
        int[][] first = {{28, 3, 6}, {20, 6, 7}, {9, 9, 6}, {25, 6, 0}, {22, 1, 6}, {17, 8, 7}};
        places("the first place of six, by STANDS the last", first, 1, 0, 0, 5);
        int[][] last = {{6, 6, 2}, {29, 3, 4}, {18, 5, 5}, {26, 5, 4}, {14, 9, 3}, {26, 1, 6}};
        places("the last place of six", last, 1, 1, 5, 5);
        int[][] where = {{17, 7, 1}, {20, 5, 1}, {18, 8, 4}, {12, 1, 0}, {28, 1, 0}, {30, 5, 2}};
        places("the last place of six, by STANDS the first", where, 1, 5, 5, 0);
        int[][] between = {{30, 1, 1}, {18, 9, 2}, {8, 9, 1}, {22, 6, 1}, {7, 3, 1}, {20, 3, 5}};
        places("a place between", between, 1, 0, 2, 5);
        NinetyNine six = bar(new int[][] {{1, 1, 0}, {1, 1, 0}, {1, 1, 0}, {1, 1, 0}, {1, 1, 0}, {1, 1, 0}}, 1);
        s.due("six are not too many", six.where(0), 0);
        s.due("six alike: that", six.where(1), 0);
        s.says("`int where(int what)`: WHERE: the place (what 0), that (1), by STANDS (2). BAD; NOT: no PIECES.");
        NinetyNine empty = new NinetyNine();
        for (int what = 0; what <= 2; what++) {
            s.due("no PIECES: where(" + what + ")", empty.where(what), -2);
        }
        for (int what : new int[] {-1, 3, MIN, MAX}) {
            s.due("where(" + what + ")", six.where(what), -1);
            s.due("BAD ahead of NOT: where(" + what + ")", empty.where(what), -1);
        }
    }

    private static NinetyNine shownBy(NinetyNine x, String law) {
        x.mend(0, 4, 4);
        Checks.law(x, law);
        return x;
    }

    private void measure() {
        s.says("WHICH MEASURE (0 .. 3; of like ones the least) has OFF (the sum) least; which has fewest seconds (0 .. LONG) at 99.");
        NinetyNine x = new NinetyNine();
        s.due("no PIECES: all alike", x.measure(0), 0);
        s.due("no PIECES: at 99, all alike", x.measure(1), 0);
        x.piece(1, 1);
        s.due("one second: all alike", x.measure(0), 0);
        s.due("MEASURE 4 is none of them", shownBy(x, "t").measure(0), 0);
        NinetyNine even = bar(new int[][] {{10, 1, 0}}, 0);
        s.due("BYTES are as near as TIME", even.measure(0), 1);
        NinetyNine steps = bar(new int[][] {{1, 1, 0}, {9, 9, 0}}, 0);
        steps.mend(0, 3, 2);
        s.due("STEPS are as near as TIME", steps.measure(0), 2);
        s.due("TIME is nearest", Checks.fifteen().measure(0), 3);
        NinetyNine late = bar(new int[][] {{19, 1, 0}}, 2);
        late.mend(0, 3, 0);
        late.mend(0, 5, 5);
        // By SMOOTH 5 FILES, 100 from the first on, are 5 off at most and BYTES, too; the sum is less by BYTES.
        s.due("by the sum, not by the greatest", late.measure(0), 1);
        // No FILES: 100 from the first on, and by SMOOTH 9 they show 9, 18, .., 99 in second 10.
        NinetyNine ten = bar(new int[][] {{10, 1, 0}}, 2);
        ten.mend(0, 3, 0);
        ten.mend(0, 5, 9);
        s.due("99 in second LONG counts", ten.measure(1), 1);
        ten.mend(0, 0, 9);
        s.due("99 behind LONG does not", ten.measure(1), 0);
        ten.mend(0, 0, 99);
        ten.mend(0, 5, 1);
        // By SMOOTH 1 FILES are at 99 in second 98, BYTES in second 99, LONG: behind 98 they may not show 100 yet.
        s.due("STEPS are never at 99", ten.measure(1), 2);
        NinetyNine two = bar(new int[][] {{99, 1, 0}, {99, 1, 0}}, 1);
        two.mend(0, 3, 9);
        two.mend(1, 3, 0);
        // 197 of 198 bytes and seconds are at 99; FILES and STEPS are not.
        s.due("FILES are never at 99", two.measure(1), 0);
        two.mend(0, 3, 0);
        two.mend(0, 5, 1);
        s.due("STEPS are never at 99, FILES go there by 1", two.measure(1), 2);
        s.due("SMOOTH stays", two.of(0, 5), 1);
        s.due("MEASURE stays", two.of(0, 4), 1);
        s.says("`int measure(int what)`: WHICH MEASURE: by OFF (what 0), at 99 (1). BAD.");
        for (int what : new int[] {-1, 2, MIN, MAX}) {
            s.due("measure(" + what + ")", two.measure(what), -1);
            s.due("no PIECES: measure(" + what + ")", new NinetyNine().measure(what), -1);
        }
    }

    private void pleases() {
        s.says("PLEASES: the sum over seconds 1 .. LONG of what SHOWN is more than the second ahead (below 0, too) times that second: "
            + "that, by SMOOTH as it is; the SMOOTH (0 .. 9; of like ones the least) by which it is most.");
        NinetyNine x = shownBy(bar(new int[][] {{9, 1, 0}}, 1), "t=0?50;t=11?60;t>90?90;60");
        // Second 0 tells nothing, second 1 is 10 more, second 9, LONG, is 30 more.
        s.due("seconds 1 and LONG", x.pleases(0), 10 + 30 * 9);
        Checks.law(x, "t=0?50;t<90?20;0");
        s.due("below 0", x.pleases(0), -30 - 20 * 9);
        Checks.law(x, "0");
        s.due("nothing is more", x.pleases(0), 0);
        s.due("of like ones the least", x.pleases(1), 0);
        Checks.law(x, "100");
        x.mend(0, 5, 9);
        // By SMOOTH v: v, 2 * v, .. up to 100: v times 1 + .. + 9 as long as ten times v is no more than 100.
        s.due("by SMOOTH as it is", x.pleases(0), 9 * 45);
        s.due("SMOOTH 9 is most, 10 is none", x.pleases(1), 9);
        x.mend(0, 5, 0);
        s.due("by SMOOTH 0", x.pleases(0), 0);
        s.due("the same SMOOTH is most", x.pleases(1), 9);
        x.mend(0, 0, 10);
        // LONG is 10: by 9 up to 99 in second 10, 9 times 55.
        s.due("SMOOTH 9 is most, in 10 seconds", x.pleases(1), 9);
        x.mend(0, 0, 11);
        // By 9 up to 99 in second 10 and 1 in second 11: 495 and 11; by 8: 8 times 66.
        s.due("SMOOTH 8 is most, in 11 seconds", x.pleases(1), 8);
        Checks.law(x, "100*(t<100)");
        // By SMOOTH 0: 100 less in second 11. By v: v times 1 + .. + 10, and all less in second 11: v * 55 - v * 11 * 11.
        s.due("all below 0: the least bad is SMOOTH 1", x.pleases(1), 1);
        x.mend(0, 5, 1);
        s.due("by SMOOTH 1", x.pleases(0), 55 - 121);
        NinetyNine steps = bar(new int[][] {{2, 2, 0}, {6, 1, 0}, {3, 1, 0}}, 2);
        s.due("SMOOTH 0 is most", steps.pleases(1), 0);
        NinetyNine empty = new NinetyNine();
        s.due("no PIECES: that", empty.pleases(0), 0);
        s.due("no PIECES: SMOOTH", empty.pleases(1), 0);
        s.says("`int pleases(int what)`: PLEASES: that (what 0; may be below 0), the SMOOTH (1). VOID: BAD.");
        for (int what : new int[] {-1, 2, MIN, MAX}) {
            s.due("pleases(" + what + ")", x.pleases(what), -2000000000);
            s.due("no PIECES: pleases(" + what + ")", empty.pleases(what), -2000000000);
        }
    }

    /** A bar whose greatest OFF is told. */
    private static NinetyNine offBy(int greatest) {
        NinetyNine x = shownBy(Checks.fifteen(), "t=0?" + greatest + ";t");
        return x;
    }

    private void trust() {
        s.says("TRUST: 50 at first; each time less the greatest OFF by 2 (cut), and 10 more, held within 0 .. 100: behind n (1 .. 20) "
            + "times; the first time (1 on) behind which it is below 20 (NOT: not within n).");
        for (int greatest = 0; greatest <= 100; greatest++) {
            NinetyNine x = offBy(greatest);
            s.due("OFF is " + greatest, x.off(0), greatest);
            int trust = 50;
            int first = -2;
            for (int n = 1; n <= 20; n++) {
                trust = trust - greatest / 2 + 10;
                trust = trust < 0 ? 0 : trust > 100 ? 100 : trust;
                first = trust < 20 && first == -2 ? n : first;
                if (n <= 3 || n >= 15) {
                    s.due("by OFF " + greatest + " behind " + n, x.trust(n, 0), trust);
                    s.due("by OFF " + greatest + " below 20 within " + n, x.trust(n, 1), first);
                }
            }
        }
        s.due("by the greatest, 20, not by the sum, 50", Checks.fifteen().trust(3, 0), 50);
        s.due("cut: 19 by 2 is 9", offBy(19).trust(1, 0), 51);
        s.due("cut: 20 by 2 is 10", offBy(20).trust(1, 0), 50);
        s.due("held within 100", offBy(0).trust(6, 0), 100);
        s.due("100 by itself", offBy(0).trust(5, 0), 100);
        s.due("held within 0", offBy(100).trust(2, 0), 0);
        s.due("20 is not below 20", offBy(80).trust(1, 1), -2);
        s.due("20", offBy(80).trust(1, 0), 20);
        s.due("19 is", offBy(82).trust(1, 1), 1);
        s.due("19", offBy(82).trust(1, 0), 19);
        s.due("behind the second", offBy(80).trust(2, 1), 2);
        s.due("not within 15", offBy(24).trust(15, 1), -2);
        s.due("behind the sixteenth", offBy(24).trust(20, 1), 16);
        s.due("no PIECES", new NinetyNine().trust(20, 1), -2);
        s.says("`int trust(int n, int what)`: TRUST: behind n times (what 0), the first time (1; NOT). BAD.");
        NinetyNine x = offBy(0);
        for (int n : new int[] {0, -1, 21, MIN, MAX}) {
            s.due("trust(" + n + ", 0)", x.trust(n, 0), -1);
            s.due("BAD ahead of NOT: trust(" + n + ", 1)", x.trust(n, 1), -1);
        }
        for (int what : new int[] {-1, 2, MIN, MAX}) {
            s.due("trust(1, " + what + ")", x.trust(1, what), -1);
        }
    }
}
