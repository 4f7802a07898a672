/** Promises 8 to 16: what the bar shows, how far it is off, what one makes of it. */
public final class ShowingTest {
    private static final Checks c = new Checks();
    /** Of the fifteen seconds of Checks. */
    private static final int[] COME = {0, 5, 10, 10, 10, 10, 12, 14, 16, 18, 20, 22, 24, 26, 28, 30};
    private static final int[] BYTES = {0, 16, 33, 33, 33, 33, 40, 46, 53, 60, 66, 73, 80, 86, 93, 100};
    private static final int[] TIME = {0, 6, 13, 20, 26, 33, 40, 46, 53, 60, 66, 73, 80, 86, 93, 100};

    public static void main(String[] args) {
        showing();
        smooth();
        never();
        smoothAndNever();
        seconds();
        standing();
        off();
        remains();
        best();
        dead();
        patience();
        tea();
        allFollowsWhatIsTold();
        c.finish();
    }

    private static void showing() {
        NinetyNine x = Checks.fifteen();
        x.mend(1, 3, 2);
        for (int t = 0; t <= 15; t++) {
            c.due("files in " + t, x.showing(t, 0), t < 2 ? 0 : t < 15 ? 33 : 100);
            c.due("bytes in " + t, x.showing(t, 1), BYTES[t]);
            c.due("steps in " + t, x.showing(t, 2), t < 2 ? 0 : t < 15 ? 50 : 100);
            c.due("time in " + t, x.showing(t, 3), TIME[t]);
            c.due("come in " + t, x.showing(t, 5), COME[t]);
        }
        int[] behind = {100, 100, 100, 100, 100, 30};
        for (int what = 0; what <= 5; what++) {
            c.due("behind the end: " + what, x.showing(16, what), behind[what]);
            c.due("in the last second: " + what, x.showing(999, what), behind[what]);
        }
        int[] by = {33, 46, 50, 46, 46};
        for (int measure = 0; measure <= 4; measure++) {
            x.mend(0, 4, measure);
            c.due("shown in 7 by " + measure, x.showing(7, 4), by[measure]);
        }
        x.mend(0, 3, 0);
        x.mend(1, 3, 0);
        x.mend(0, 4, 0);
        c.due("no files", x.showing(0, 0), 100);
        c.due("no files shown", x.showing(0, 4), 100);
        c.due("a second -1", x.showing(-1, 0), -1);
        c.due("a second 1000", x.showing(1000, 0), -1);
        c.due("showing(0, -1)", x.showing(0, -1), -1);
        c.due("showing(0, 6)", x.showing(0, 6), -1);
        c.due("showing(MAX, 4)", x.showing(Integer.MAX_VALUE, 4), -1);
        c.due("showing(MIN, 5)", x.showing(Integer.MIN_VALUE, 5), -1);
        NinetyNine last = new NinetyNine();
        last.piece(11, 5);
        c.due("the last bytes but one", last.showing(2, 5), 10);
        c.due("no more than there are", last.showing(3, 5), 11);
    }

    private static void smooth() {
        NinetyNine x = Checks.fifteen();
        x.mend(0, 5, 4);
        int[] due = {0, 4, 8, 12, 16, 20, 24, 28, 32, 36, 40, 44, 48, 52, 56, 60};
        for (int t = 0; t <= 15; t++) {
            c.due("smooth in " + t, x.showing(t, 4), due[t]);
        }
        c.due("smooth behind the end", x.showing(24, 4), 96);
        c.due("smooth is there at last", x.showing(25, 4), 100);
        x.mend(0, 5, 9);
        int[] nines = {0, 9, 18, 27, 33, 33, 40, 46};
        for (int t = 0; t < nines.length; t++) {
            c.due("smooth by 9 in " + t, x.showing(t, 4), nines[t]);
        }
        NinetyNine empty = new NinetyNine();
        empty.mend(0, 5, 9);
        c.due("nothing ahead of second 0", empty.showing(0, 4), 9);
        c.due("and so on", empty.showing(1, 4), 18);
        c.due("the measure is as it is", empty.showing(0, 1), 100);
        Checks.law(x, "t<50?60;20");
        x.mend(0, 4, 4);
        c.due("smooth up", x.showing(7, 4), 60);
        c.due("but down at once", x.showing(8, 4), 20);
    }

    private static void never() {
        NinetyNine x = Checks.fifteen();
        Checks.law(x, "t=46?70;t=53?20;t=60?80;t");
        x.mend(0, 4, 4);
        int[] back = {0, 6, 13, 20, 26, 33, 40, 70, 20, 80, 66, 73, 80, 86, 93, 100};
        int[] never = {0, 6, 13, 20, 26, 33, 40, 70, 70, 80, 80, 80, 80, 86, 93, 100};
        for (int t = 0; t <= 15; t++) {
            c.due("back in " + t, x.showing(t, 4), back[t]);
        }
        x.mend(0, 6, 1);
        for (int t = 0; t <= 15; t++) {
            c.due("never back in " + t, x.showing(t, 4), never[t]);
        }
    }

    private static void smoothAndNever() {
        NinetyNine x = Checks.fifteen();
        Checks.law(x, "t=6?20;t=13?0;t=20?9;b");
        x.mend(0, 4, 4);
        x.mend(0, 5, 5);
        x.mend(0, 6, 1);
        int[] due = {0, 5, 5, 9, 14, 19, 24, 29, 34};
        for (int t = 0; t < due.length; t++) {
            c.due("smooth, never back in " + t, x.showing(t, 4), due[t]);
        }
    }

    private static void seconds() {
        NinetyNine x = Checks.fifteen();
        c.due("seconds(33)", x.seconds(33), 4);
        c.due("seconds(0)", x.seconds(0), 1);
        c.due("seconds(100)", x.seconds(100), 1);
        c.due("seconds(1)", x.seconds(1), 0);
        c.due("seconds(-1)", x.seconds(-1), -1);
        c.due("seconds(101)", x.seconds(101), -1);
        x.mend(0, 4, 2);
        c.due("seconds(50) by steps", x.seconds(50), 13);
        c.due("seconds(0) by steps", x.seconds(0), 2);
    }

    private static void standing() {
        NinetyNine x = Checks.fifteen();
        c.due("how many", x.standing(0), 4);
        c.due("from which on", x.standing(1), 2);
        c.due("which per cent", x.standing(2), 33);
        c.due("standing(-1)", x.standing(-1), -1);
        c.due("standing(3)", x.standing(3), -1);
        x.mend(1, 2, 0);
        c.due("nothing stands: how many", x.standing(0), 1);
        c.due("nothing stands: the first", x.standing(1), 0);
        c.due("nothing stands: its per cent", x.standing(2), 0);
        x.mend(0, 2, 4);
        x.mend(1, 2, 4);
        c.due("two alike: how many", x.standing(0), 5);
        c.due("two alike: the first", x.standing(1), 0);
        c.due("two alike: its per cent", x.standing(2), 0);
        x.mend(1, 2, 5);
        c.due("the second is longer", x.standing(0), 6);
        c.due("the second is longer: from", x.standing(1), 6);
        x.mend(0, 4, 2);
        x.mend(0, 2, 60);
        c.due("the last second counts, no later one", x.standing(0), 62);
        x.mend(0, 2, 0);
        x.mend(1, 3, 0);
        x.mend(0, 4, 0);
        c.due("to the end", x.standing(0), 16);
        c.due("to the end: from", x.standing(1), 2);
        c.due("to the end: per cent", x.standing(2), 100);
    }

    private static void off() {
        NinetyNine x = Checks.fifteen();
        c.due("the greatest", x.off(0), 20);
        c.due("the sum", x.off(1), 50);
        c.due("the second", x.off(2), 2);
        c.due("off(-1)", x.off(-1), -1);
        c.due("off(3)", x.off(3), -1);
        x.mend(0, 4, 3);
        c.due("by time: the greatest", x.off(0), 0);
        c.due("by time: the sum", x.off(1), 0);
        c.due("by time: the second", x.off(2), 0);
        x.mend(0, 4, 2);
        c.due("by steps: the greatest", x.off(0), 43);
        c.due("by steps: the second", x.off(2), 14);
        c.due("by steps: the sum", x.off(1), 6 + 37 + 30 + 24 + 17 + 10 + 4 + 3 + 10 + 16 + 23 + 30 + 36 + 43);
        x.mend(0, 4, 4);
        Checks.law(x, "100-t");
        c.due("like ones: the greatest", x.off(0), 100);
        c.due("like ones: the first", x.off(2), 0);
    }

    private static void remains() {
        NinetyNine x = Checks.fifteen();
        c.due("by the whole", x.remains(6, 0), 9);
        c.due("by the whole, cut up", x.remains(7, 0), 8);
        c.due("by the whole, all there", x.remains(15, 0), 0);
        c.due("by the last 2: nothing came", x.remains(4, 2), -2);
        c.due("by the last 3", x.remains(7, 3), 12);
        c.due("by the last 5, cut up", x.remains(8, 5), 12);
        c.due("by the last 60: all there are", x.remains(2, 60), 4);
        c.due("by the last 1", x.remains(15, 1), 0);
        c.due("true", x.remains(4, -1), 11);
        c.due("true at the end", x.remains(15, -1), 0);
        c.due("remains(0, 0)", x.remains(0, 0), -1);
        c.due("remains(16, 0)", x.remains(16, 0), -1);
        c.due("remains(16, -1)", x.remains(16, -1), -1);
        c.due("remains(-1, -1)", x.remains(-1, -1), -1);
        c.due("remains(1, -2)", x.remains(1, -2), -1);
        c.due("remains(1, 61)", x.remains(1, 61), -1);
        c.due("remains(MAX, MIN)", x.remains(Integer.MAX_VALUE, Integer.MIN_VALUE), -1);
        x.mend(0, 2, 2);
        c.due("nothing came at all", x.remains(2, 0), -2);
        c.due("nothing came at all, by the last", x.remains(1, 60), -2);
        x.mend(0, 4, 0);
        x.mend(0, 5, 1);
        c.due("whatever is shown", x.remains(17, 1), 0);
    }

    private static void best() {
        NinetyNine x = new NinetyNine();
        x.piece(4, 2);
        x.piece(2, 1);
        // Behind seconds 1, 2, 3, 4 have come 2, 4, 5, 6; true are 3, 2, 1, 0.
        // By the last 1: 2, 1, 1, 0; by the last 2: 2, 1, 1, 0; by the whole: 2, 1, 1, 0.
        c.due("by 1", x.best(0), 1);
        c.due("its sum", x.best(1), 2);
        c.due("by the whole", x.best(2), 2);
        c.due("best(-1)", x.best(-1), -1);
        c.due("best(3)", x.best(3), -1);
        x.mend(1, 2, 2);
        // Behind seconds 1 .. 6 have come 2, 4, 4, 4, 5, 6; true are 5, 4, 3, 2, 1, 0.
        // By 1: 2, 1, NOT, NOT, 1, 0: 3 + 3 + 999 + 999. By 2: 2, 1, 2, NOT, 2, 0: 3 + 3 + 1 + 999 + 1.
        // By 3: 2, 1, 2, 3, 3, 0: 3 + 3 + 1 + 1 + 2. By the whole and by 4: 2, 1, 2, 2, then by 5 that of 5: 1, by 4 2.
        c.due("remains(5, 4)", x.remains(5, 4), 2);
        c.due("by the whole", x.best(2), 7);
        c.due("its sum", x.best(1), 7);
        c.due("by the fifth", x.best(0), 5);
        bestByTheLast();
        NinetyNine late = new NinetyNine();
        late.piece(1, 1);
        late.piece(99, 9);
        late.mend(0, 2, 50);
        // 50 seconds of nothing, second 51 would take 51 times 99: 999 each.
        c.that("999 at most", late.best(2) < 62 * 999 && late.best(2) >= 51 * 999);
        c.due("999 at most each", late.remains(51, 0), 51 * 99);
    }

    /** A stand of 59 seconds is best looked over by 60 and more: 60 is the most, and of like ones the least counts. */
    private static void bestByTheLast() {
        NinetyNine x = new NinetyNine();
        x.piece(99, 9);
        x.piece(9, 1);
        x.mend(1, 2, 58);
        int[] sum = new int[61];
        for (int w = 0; w <= 60; w++) {
            for (int t = 1; t <= x.of(0, 8); t++) {
                int guess = x.remains(t, w);
                sum[w] += guess == -2 ? 999 : Math.min(999, Math.abs(guess - x.remains(t, -1)));
            }
        }
        int best = 1;
        for (int w = 2; w <= 60; w++) {
            best = sum[w] < sum[best] ? w : best;
        }
        c.due("59 stuck: by", x.best(0), best);
        c.due("59 stuck: by the most", best, 60);
        c.due("59 stuck: its sum", x.best(1), sum[60]);
        c.due("59 stuck: by the whole", x.best(2), sum[0]);
    }

    private static void dead() {
        NinetyNine x = Checks.fifteen();
        c.due("dead(3, 0)", x.dead(3, 0), 5);
        c.due("dead(3, 1)", x.dead(3, 1), 10);
        c.due("dead(3, 2)", x.dead(3, 2), 10);
        c.due("dead(2, 0)", x.dead(2, 0), 4);
        c.due("dead(2, 2)", x.dead(2, 2), 11);
        c.due("dead(1, 0)", x.dead(1, 0), 3);
        for (int what = 0; what <= 2; what++) {
            c.due("dead(4, " + what + ")", x.dead(4, what), -2);
            c.due("dead(999, " + what + ")", x.dead(999, what), -2);
            c.due("dead(0, " + what + ")", x.dead(0, what), -1);
            c.due("dead(1000, " + what + ")", x.dead(1000, what), -1);
        }
        c.due("dead(1, -1)", x.dead(1, -1), -1);
        c.due("dead(1, 3)", x.dead(1, 3), -1);
        x.mend(0, 4, 2);
        c.due("ahead of LONG alone", x.dead(12, 0), 14);
        c.due("not in LONG", x.dead(13, 0), -2);
        c.due("lost by steps", x.dead(12, 1), 28);
        c.due("there must be d seconds ahead", x.dead(1, 0), 1);
        x.mend(0, 4, 1);
        x.mend(0, 2, 2);
        c.due("in second 2 at the first", x.dead(2, 0), 2);
        c.due("nothing lost", x.dead(2, 1), 0);
    }

    private static void patience() {
        NinetyNine x = Checks.fifteen();
        c.due("patience", x.patience(), 4);
        x.mend(1, 2, 0);
        c.due("nothing stands", x.patience(), 1);
        x.mend(0, 4, 0);
        c.due("by files", x.patience(), 10);
        x.mend(0, 3, 0);
        x.mend(1, 3, 0);
        c.due("LONG itself is not ahead of LONG", x.patience(), 12);
        NinetyNine one = new NinetyNine();
        one.piece(1, 1);
        c.due("one second", one.patience(), 1);
        NinetyNine most = new NinetyNine();
        for (int i = 0; i < 6; i++) {
            most.piece(99, 1);
            most.mend(i, 2, 60);
        }
        most.mend(0, 4, 0);
        for (int i = 0; i < 6; i++) {
            most.mend(i, 3, 0);
        }
        c.due("the most there can be", most.patience(), 954);
        c.due("dead by one less", most.dead(953, 0), 953);
        c.due("never by that", most.dead(954, 0), -2);
    }

    private static void tea() {
        NinetyNine x = Checks.fifteen();
        c.due("tea(5, 10)", x.tea(5, 10), 1);
        c.due("tea(5, 11)", x.tea(5, 11), 0);
        c.due("tea(0, 1)", x.tea(0, 1), 1);
        c.due("tea(15, 1)", x.tea(15, 1), 0);
        c.due("tea(999, 999)", x.tea(999, 999), 0);
        c.due("tea(-1, 1)", x.tea(-1, 1), -1);
        c.due("tea(1000, 1)", x.tea(1000, 1), -1);
        c.due("tea(0, 0)", x.tea(0, 0), -1);
        c.due("tea(0, 1000)", x.tea(0, 1000), -1);
        c.due("tea(MAX, MAX)", x.tea(Integer.MAX_VALUE, Integer.MAX_VALUE), -1);
        c.due("tea(1, MAX)", x.tea(1, Integer.MAX_VALUE), -1);
    }

    private static void allFollowsWhatIsTold() {
        NinetyNine x = Checks.fifteen();
        c.due("shown", x.showing(2, 4), 33);
        c.due("sum", x.off(1), 50);
        x.piece(10, 1);
        c.due("shown with another piece", x.showing(2, 4), 25);
        c.due("stands with another piece", x.standing(2), 25);
        x.mend(2, 0, 70);
        c.due("shown with a mended piece", x.showing(2, 4), 10);
        x.undo();
        c.due("shown with what is undone", x.showing(2, 4), 25);
        x.redo();
        c.due("shown with what is done again", x.showing(2, 4), 10);
        Checks.row(x, 0, 90, 9, 0);
        x.pieces(0, 0, 1);
        c.due("shown with a piece from a row", x.showing(2, 4), 5);
        x.mend(0, 4, 4);
        c.due("by the law, without a text", x.showing(2, 4), 5);
        Checks.law(x, "3");
        c.due("by the law", x.showing(2, 4), 3);
    }
}
