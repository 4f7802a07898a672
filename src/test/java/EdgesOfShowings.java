/** The terms' second part, and promises 9 to 16: what the bar shows, how it stands, is off, guesses, seems dead. */
final class EdgesOfShowings {
    private static final int MIN = Integer.MIN_VALUE;
    private static final int MAX = Integer.MAX_VALUE;
    private final Sentences s;

    private EdgesOfShowings(Sentences s) {
        this.s = s;
    }

    static void ask(Sentences s) {
        EdgesOfShowings edges = new EdgesOfShowings(s);
        edges.seconds();
        edges.stands();
        edges.off();
        edges.remains();
        edges.best();
        edges.dead();
        edges.patience();
        edges.tea();
    }

    /** The fifteen seconds of Checks, shown by a law. */
    private static NinetyNine by(String law) {
        NinetyNine x = Checks.fifteen();
        x.mend(0, 4, 4);
        Checks.law(x, law);
        return x;
    }

    /** Six PIECES of 159 seconds each, the longest that there are. */
    private static NinetyNine longest() {
        NinetyNine x = new NinetyNine();
        for (int number = 0; number <= 5; number++) {
            x.piece(99, 1);
            x.mend(number, 2, 60);
        }
        return x;
    }

    private void badWhats(String call, java.util.function.IntUnaryOperator asked) {
        for (int what : new int[] {-1, 3, MIN, MAX}) {
            s.due(call + "(" + what + ")", asked.applyAsInt(what), -1);
        }
    }

    private void seconds() {
        s.says("SHOWING: COME, SHOWN in a second; how many of the seconds 0 .. LONG show a per cent;");
        NinetyNine x = Checks.fifteen();
        s.due("second 0 is one", x.seconds(0), 1);
        s.due("LONG is one, none behind it", x.seconds(100), 1);
        s.due("four show 33", x.seconds(33), 4);
        s.due("none shows 99", x.seconds(99), 0);
        NinetyNine always = by("7");
        s.due("all seconds of 0 .. 15", always.seconds(7), 16);
        int sum = 0;
        for (int cent = 0; cent <= 100; cent++) {
            sum += x.seconds(cent);
        }
        s.due("all per cents together", sum, 16);
        s.due("no PIECES: second 0", new NinetyNine().seconds(100), 1);
        s.due("no PIECES: no other", new NinetyNine().seconds(0), 0);
        NinetyNine most = longest();
        most.mend(0, 4, 4);
        Checks.law(most, "100");
        s.due("seconds 0 .. 954", most.seconds(100), 955);
        s.says("`int seconds(int cent)`: How many seconds show a per cent (0 .. 100). BAD.");
        for (int cent : new int[] {-1, 101, MIN, MAX}) {
            s.due("seconds(" + cent + ")", x.seconds(cent), -1);
        }
        s.due("seconds(0)", x.seconds(0), 1);
        s.due("seconds(100)", x.seconds(100), 1);
    }

    private void standing(String what, NinetyNine x, int many, int from, int cent) {
        s.due(what + ": how many", x.standing(0), many);
        s.due(what + ": from which on", x.standing(1), from);
        s.due(what + ": which per cent", x.standing(2), cent);
    }

    private void stands() {
        s.says("STANDS: the most seconds one after the other (of 0 .. LONG) that show the same: how many; from which on (the first "
            + "such); which per cent.");
        standing("in the middle", Checks.fifteen(), 4, 2, 33);
        standing("no PIECES", new NinetyNine(), 1, 0, 100);
        standing("all of 0 .. LONG, none behind it", by("7"), 16, 0, 7);
        standing("from second 0 on", by("t<53?7;l+1"), 8, 0, 7);
        standing("up to LONG", by("t<53?l+1;7"), 8, 8, 7);
        standing("the first of two of four", by("t<26?5;t<53?6;l+1"), 4, 0, 5);
        standing("the second is longer", by("t<26?5;t<60?6;l+1"), 5, 4, 6);
        standing("the first is longer", by("t<33?5;t<53?6;l+1"), 5, 0, 5);
        standing("not one after the other", by("l=5?6;5"), 1, 0, 5);
        standing("nothing stands", by("l+6"), 1, 0, 6);
        NinetyNine most = longest();
        most.mend(0, 4, 4);
        Checks.law(most, "9");
        standing("the longest", most, 955, 0, 9);
        s.says("`int standing(int what)`: STANDS: how many (what 0), from which on (1), which per cent (2). BAD.");
        badWhats("standing", most::standing);
    }

    private void isOff(String what, NinetyNine x, int greatest, int sum, int second) {
        s.due(what + ": the greatest", x.off(0), greatest);
        s.due(what + ": the sum", x.off(1), sum);
        s.due(what + ": the second of the greatest", x.off(2), second);
    }

    private void off() {
        s.says("OFF: how far SHOWN is from per cent of TIME, in seconds 0 .. LONG: the greatest; the sum; the second of the greatest "
            + "(the first).");
        isOff("above", Checks.fifteen(), 20, 50, 2);
        isOff("no PIECES", new NinetyNine(), 0, 0, 0);
        isOff("not at all", by("t"), 0, 0, 0);
        isOff("in second 0", by("t=0?40;t"), 40, 40, 0);
        isOff("in second LONG", by("t=100?40;t"), 60, 60, 15);
        isOff("in second 1", by("t=6?5;t"), 1, 1, 1);
        isOff("above and below", by("t=20?30;t=40?30;t"), 10, 20, 3);
        isOff("the second is greater", by("t=20?30;t=40?29;t"), 11, 21, 6);
        isOff("by all there is, in the first of two", by("100-100*(t=100)"), 100, 905, 0);
        isOff("above what is below", by("t=93?0;t=100?0;t"), 100, 193, 15);
        s.says("`int off(int what)`: OFF: the greatest (what 0), the sum (1), the second (2). BAD.");
        badWhats("off", Checks.fifteen()::off);
    }

    private void remains() {
        s.says("REMAINS in a second t (1 .. LONG), LACK: BYTES that have not COME: by the WHOLE: t times LACK by what has COME "
            + "(cut up); by the LAST w (1 .. 60) seconds (all t, if there are fewer): so many seconds times LACK by what came in them "
            + "(cut up); NOT: nothing came. TRUE: LONG less t.");
        NinetyNine x = Checks.fifteen();
        int[] whole = {5, 4, 6, 8, 10, 9, 8, 7, 6, 5, 4, 3, 2, 1, 0};
        for (int t = 1; t <= 15; t++) {
            s.due("by the WHOLE in " + t, x.remains(t, 0), whole[t - 1]);
            s.due("TRUE in " + t, x.remains(t, -1), 15 - t);
            s.due("by the LAST 60, all t, in " + t, x.remains(t, 60), whole[t - 1]);
            s.due("by the LAST t in " + t, x.remains(t, t), whole[t - 1]);
            s.due("by the LAST t and one in " + t, x.remains(t, t + 1), whole[t - 1]);
        }
        s.due("by the LAST 5 of 6", x.remains(6, 5), 13);
        s.due("by the LAST 1", x.remains(6, 1), 9);
        s.due("by the LAST 3: nothing came", x.remains(5, 3), -2);
        s.due("by the LAST 4: 5 came", x.remains(5, 4), 16);
        x.mend(0, 2, 2);
        s.due("by the WHOLE: nothing came", x.remains(2, 0), -2);
        s.due("by the LAST 60: nothing came", x.remains(2, 60), -2);
        s.due("TRUE all the same", x.remains(2, -1), 15);
        s.due("by the WHOLE: then it comes", x.remains(3, 0), 15);
        x = new NinetyNine();
        x.piece(9, 9);
        x.piece(99, 1);
        s.due("by the LAST 60 of 60", x.remains(60, 60), 36);
        s.due("by the LAST 59 of 60", x.remains(60, 59), 40);
        s.due("by the LAST 60 of 61", x.remains(61, 60), 39);
        s.due("by the WHOLE of 61", x.remains(61, 0), 35);
        NinetyNine most = longest();
        s.due("in the last of 954", most.remains(954, 1), 0);
        s.due("one ahead, by the WHOLE", most.remains(953, 0), 2);
        s.due("the most: 61 seconds, 1 of 594 came", most.remains(61, 0), 61 * 593);
        s.says("`int remains(int t, int w)`: REMAINS by the WHOLE (w 0), by the LAST w, TRUE (-1). BAD; NOT.");
        x = Checks.fifteen();
        for (int w : new int[] {-1, 0, 1, 60}) {
            for (int t : new int[] {0, -1, 16, 999, 1000, MIN, MAX}) {
                s.due("remains(" + t + ", " + w + ")", x.remains(t, w), -1);
            }
            s.due("no PIECES: remains(0, " + w + ")", new NinetyNine().remains(0, w), -1);
            s.due("no PIECES: remains(1, " + w + ")", new NinetyNine().remains(1, w), -1);
        }
        for (int w : new int[] {-2, 61, MIN, MAX}) {
            s.due("remains(1, " + w + ")", x.remains(1, w), -1);
        }
        x.mend(0, 2, 1);
        s.due("NOT", x.remains(1, 0), -2);
        s.due("BAD ahead of NOT", x.remains(1, 61), -1);
        s.due("BAD ahead of NOT, by -2", x.remains(1, -2), -1);
    }

    /** How far the guesses by w are off, of what has come by each second; worked out here once more. */
    private static int guessed(int[] come, int w) {
        int last = come.length - 1;
        int sum = 0;
        for (int t = 1; t <= last; t++) {
            int from = w == 0 || w > t ? 0 : t - w;
            int came = come[t] - come[from];
            double exact = came == 0 ? 0 : (double) (t - from) * (come[last] - come[t]) / came;
            long guess = (long) Math.ceil(exact - 1e-9);
            sum += (int) (came == 0 ? 999 : Math.min(999, Math.abs(guess - (last - t))));
        }
        return sum;
    }

    private void guesses(String what, NinetyNine x, int dueW) {
        int length = x.of(0, 8);
        int[] come = new int[length + 1];
        for (int t = 0; t <= length; t++) {
            come[t] = x.showing(t, 5);
        }
        int w = 1;
        for (int other = 2; other <= 60; other++) {
            w = guessed(come, other) < guessed(come, w) ? other : w;
        }
        s.due(what + ": w", x.best(0), w);
        s.due(what + ": as it was thought of", w, dueW);
        s.due(what + ": that sum", x.best(1), guessed(come, w));
        s.due(what + ": by the WHOLE", x.best(2), guessed(come, 0));
    }

    private void best() {
        s.says("BEST: by which w the sum of how far REMAINS is from TRUE over seconds 1 .. LONG (999 at most each; NOT: 999) is least "
            + "(of like ones the least); that sum; that by the WHOLE.");
        NinetyNine x = new NinetyNine();
        s.due("no PIECES: w", x.best(0), 1);
        s.due("no PIECES: that sum", x.best(1), 0);
        s.due("no PIECES: by the WHOLE", x.best(2), 0);
        x.piece(1, 1);
        guesses("all w alike", x, 1);
        x.mend(0, 2, 2);
        s.due("NOT: 999, twice", x.best(1), 1998);
        s.due("NOT: 999, twice, by the WHOLE", x.best(2), 1998);
        guesses("NOT: 999", x, 1);
        x.mend(0, 2, 50);
        x.piece(99, 9);
        // 50 seconds of NOT; in second 51 the WHOLE says 5049 and 11 is TRUE: 999.
        s.due("in second 51", x.remains(51, 0), 5049);
        guesses("999 at most", x, 1);
        x = new NinetyNine();
        x.piece(20, 2);
        x.piece(20, 1);
        guesses("w 1 is best alone", x, 1);
        x = new NinetyNine();
        x.piece(4, 2);
        x.piece(7, 3);
        x.mend(0, 2, 3);
        x.mend(1, 2, 1);
        guesses("w 2 is best alone", x, 2);
        x = new NinetyNine();
        x.piece(99, 9);
        x.piece(9, 1);
        x.mend(1, 2, 58);
        guesses("w 60 is best alone", x, 60);
        x.mend(1, 2, 59);
        guesses("61 were better", x, 60);
        x = new NinetyNine();
        x.piece(9, 1);
        x.piece(9, 3);
        x.mend(1, 2, 3);
        guesses("w 12", x, 12);
        s.says("`int best(int what)`: BEST: w (what 0), that sum (1), by the WHOLE (2). BAD.");
        badWhats("best", x::best);
        badWhats("no PIECES: best", new NinetyNine()::best);
    }

    private void isDead(String what, NinetyNine x, int d, int second, int lost, int still) {
        s.due(what + ": the second", x.dead(d, 0), second);
        s.due(what + ": lost", x.dead(d, 1), lost);
        s.due(what + ": still", x.dead(d, 2), still);
    }

    private void dead() {
        s.says("DEAD: one takes it as dead in the first second ahead of LONG in which the d (1 .. 999) seconds ahead and it all show "
            + "the same: that second; BYTES COME then (lost); how long it would still take; NOT: never.");
        NinetyNine x = Checks.fifteen();
        isDead("by 1", x, 1, 3, 10, 12);
        isDead("by 3", x, 3, 5, 10, 10);
        isDead("by 4", x, 4, -2, -2, -2);
        isDead("by 999", x, 999, -2, -2, -2);
        NinetyNine always = by("7");
        isDead("d seconds must be ahead", always, 1, 1, 5, 14);
        isDead("by 13", always, 13, 13, 26, 2);
        isDead("ahead of LONG", always, 14, 14, 28, 1);
        isDead("not in LONG", always, 15, -2, -2, -2);
        isDead("nor behind it", always, 16, -2, -2, -2);
        isDead("the first of two", by("t<26?5;t<53?6;l+1"), 3, 3, 10, 12);
        isDead("the second is longer", by("t<26?5;t<60?6;l+1"), 4, 8, 16, 7);
        isDead("never the same", by("l+6"), 1, -2, -2, -2);
        isDead("by turns", by("l=5?6;5"), 1, -2, -2, -2);
        isDead("no PIECES", new NinetyNine(), 1, -2, -2, -2);
        NinetyNine most = longest();
        most.mend(0, 4, 4);
        Checks.law(most, "9");
        isDead("the longest", most, 953, 953, 593, 1);
        isDead("not in second 954", most, 954, -2, -2, -2);
        s.says("`int dead(int d, int what)`: DEAD: the second (what 0), lost (1), still (2). BAD; NOT.");
        for (int d : new int[] {0, -1, 1000, MIN, MAX}) {
            for (int what = 0; what <= 2; what++) {
                s.due("dead(" + d + ", " + what + ")", x.dead(d, what), -1);
            }
        }
        badWhats("dead(1, ..)", what -> x.dead(1, what));
        badWhats("BAD ahead of NOT", what -> x.dead(999, what));
        s.due("d 1 is none of these", x.dead(1, 0), 3);
        s.due("nor is d 999", x.dead(999, 0), -2);
    }

    private void patience() {
        s.says("PATIENCE: the least d by which one never does.");
        NinetyNine[] bars = {Checks.fifteen(), by("7"), by("l+6"), by("t<53?l+1;7"), by("t<60?7;l+1"), by("t<46?l+2;7")};
        int[] due = {4, 15, 1, 7, 9, 8};
        for (int i = 0; i < bars.length; i++) {
            s.due("of bar " + i, bars[i].patience(), due[i]);
            s.due("never by that", bars[i].dead(due[i], 0), -2);
            s.due("but by less", due[i] == 1 || bars[i].dead(due[i] - 1, 0) > 0 ? 1 : 0, 1);
        }
        s.due("no PIECES", new NinetyNine().patience(), 1);
        NinetyNine one = new NinetyNine();
        one.piece(1, 1);
        s.due("one second", one.patience(), 1);
        one.mend(0, 2, 1);
        s.due("two that show the same, and LONG", one.patience(), 2);
        NinetyNine most = longest();
        most.mend(0, 4, 4);
        Checks.law(most, "9");
        s.due("the most", most.patience(), 954);
        s.says("`int patience()`: PATIENCE.");
        s.due("of the stuck piece", Checks.fifteen().patience(), 4);
    }

    private void tea() {
        s.says("TEA: whether who goes in second t (0 .. 999) for s (1 .. 999) seconds is back in second LONG at the latest (1, 0).");
        NinetyNine x = Checks.fifteen();
        s.due("back in LONG", x.tea(0, 15), 1);
        s.due("back a second later", x.tea(0, 16), 0);
        s.due("back in LONG from 14", x.tea(14, 1), 1);
        s.due("back a second later from 14", x.tea(14, 2), 0);
        s.due("gone in LONG", x.tea(15, 1), 0);
        s.due("back long ahead", x.tea(0, 1), 1);
        s.due("the latest of all", x.tea(999, 999), 0);
        NinetyNine most = longest();
        s.due("back in 954", most.tea(0, 954), 1);
        s.due("back in 955", most.tea(0, 955), 0);
        s.due("back in 954 from 953", most.tea(953, 1), 1);
        s.due("gone in 954", most.tea(954, 1), 0);
        s.due("no PIECES", new NinetyNine().tea(0, 1), 0);
        s.says("`int tea(int t, int s)`: TEA. BAD.");
        for (int t : new int[] {-1, 1000, MIN, MAX}) {
            s.due("tea(" + t + ", 1)", x.tea(t, 1), -1);
        }
        for (int seconds : new int[] {0, -1, 1000, MIN, MAX}) {
            s.due("tea(0, " + seconds + ")", x.tea(0, seconds), -1);
        }
        s.due("tea(999, 1)", x.tea(999, 1), 0);
        s.due("tea(0, 999)", x.tea(0, 999), 0);
    }
}
