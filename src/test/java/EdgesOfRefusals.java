import java.util.ArrayList;
import java.util.List;
import java.util.function.Supplier;

/** The answers' order; that what is refused, and what is only asked, changes nothing; that bars share no memory. */
final class EdgesOfRefusals {
    private static final int MIN = Integer.MIN_VALUE;
    private static final int MAX = Integer.MAX_VALUE;

    private interface Call {
        long on(NinetyNine x);
    }

    private final Sentences s;

    private EdgesOfRefusals(Sentences s) {
        this.s = s;
    }

    static void ask(Sentences s) {
        EdgesOfRefusals edges = new EdgesOfRefusals(s);
        edges.calls();
        edges.order();
        edges.refusedWhenFull();
        edges.refusedWhenEmpty();
        edges.asked();
        edges.own();
    }

    private void calls() {
        s.says("An object is used for at most 512 calls after it has been made; what later calls answer is free.");
        NinetyNine x = new NinetyNine();
        x.piece(1, 1);
        for (int call = 2; call <= 511; call++) {
            s.due("call " + call, x.mend(0, 0, call % 99 + 1), call == 2 ? 1 : (call - 1) % 99 + 1);
        }
        s.due("call 512", x.count(2), 40);
    }

    private void order() {
        s.says("Answers, of several the one named first: BAD (-1): no such number, or it is not as said; NOT (-2): as told; FULL (-3); "
            + "STATE (-5): as told; -11 to -14.");
        NinetyNine x = full();
        s.due("BAD, FULL: piece", x.piece(0, 1), -1);
        s.due("FULL: piece", x.piece(1, 1), -3);
        s.due("BAD, FULL: feed", x.feed(256), -1);
        s.due("FULL: feed", x.feed(255), -3);
        s.due("BAD, FULL: body", x.body(8), -1);
        s.due("FULL: body", x.body(7), -3);
        s.due("BAD, STATE: order", x.order(-2), -1);
        s.due("STATE: order", x.order(5), -5);
        s.due("BAD, -12: pieces", x.pieces(1, 0, 7), -1);
        s.due("-12: pieces", x.pieces(1, 0, 6), -12);
        s.due("BAD, -11: judge", x.judge(2, 1000), -1);
        s.due("-11: judge", x.judge(2, 999), -11);
        s.due("BAD, -12: speed", x.speed(1, 0, 6), -1);
        s.due("-12: speed", x.speed(1, 0, 5), -12);
        s.due("BAD, -14: row", x.row(0, 5, -1), -1);
        s.due("-14: row", x.row(0, 4, -1), -14);
        s.due("BAD, -11, -13: put", x.put(6, -1, 1), -1);
        s.due("-11, -13: put", x.put(2, -1, 1), -11);
        s.due("-12, -13: put", x.put(1, -1, 1), -12);
        s.due("-13: put", x.put(0, -1, 1), -13);
        s.due("BAD, -11, -12, -13: shift", x.shift(1, -1, 6, -1, 1), -1);
        s.due("-11, -12, -13: shift", x.shift(1, -1, 2, -1, 1), -11);
        s.due("-12, -13: shift", x.shift(0, -1, 3, -1, 1), -12);
        s.due("-13: shift", x.shift(0, -1, 0, -1, 1), -13);
        s.due("BAD, -11: taken", x.taken(2, 8), -1);
        s.due("BAD, -12: taken", x.taken(0, 8), -1);
        s.due("BAD, NOT: dead", x.dead(999, 3), -1);
        s.due("NOT: dead", x.dead(999, 2), -2);
        NinetyNine empty = new NinetyNine();
        s.due("BAD, NOT: where", empty.where(3), -1);
        s.due("NOT: where", empty.where(2), -2);
        s.due("BAD, NOT: order", empty.order(-2), -1);
        s.due("NOT: order", empty.order(0), -2);
        s.due("BAD, STATE: pass", empty.pass(0), -1);
        s.due("BAD, STATE: pass, 100", empty.pass(100), -1);
        s.due("STATE: pass", empty.pass(99), -5);
        s.due("BAD, NOT: led", empty.led(6), -1);
        s.due("NOT: led", empty.led(5), -2);
        s.says("VOID is -2000000000.");
        s.due("pleases(2)", empty.pleases(2), -2000000000);
        s.due("VOID", NinetyNine.VOID, -2000000000);
        s.due("BAD", NinetyNine.BAD, -1);
        s.due("NOT", NinetyNine.NOT, -2);
        s.due("FULL", NinetyNine.FULL, -3);
        s.due("STATE", NinetyNine.STATE, -5);
    }

    /** All that can be full is full; a wait is on, an image kept, two changes are UNDONE, THE LAW is told. */
    private static NinetyNine full() {
        NinetyNine x = new NinetyNine();
        for (int number = 0; number <= 5; number++) {
            x.piece(10 + 7 * number, 2 + number);
            x.mend(number, 2, 3 * number + 1);
        }
        Checks.law(x, "t<50?b;l+2");
        x.mend(0, 4, 4);
        x.mend(0, 6, 1);
        for (int v = 1; v <= 34; v++) {
            x.mend(v % 6, 1, v % 9 + 1);
        }
        x.undo();
        x.undo();
        x.begin();
        x.pass(9);
        x.image();
        x.pass(4);
        for (int n = 0; n <= 49; n++) {
            x.body(n % 8);
        }
        x.act(7, 3, 5);
        for (int letter = 0; letter < 120; letter++) {
            x.feed("b+1*".charAt(letter % 4));
        }
        Checks.row(x, 0, 7, 3, 2, 5, 4, 1);
        x.keep(1, 11);
        x.row(3, 1, 60);
        x.put(3, 59, -3);
        x.row(4, 0, 0);
        x.row(5, 3, 2);
        x.put(5, 1, 1L << 40);
        return x;
    }

    /** All that a bar holds, asked for in six ways, each of which leaves nothing to ask for behind it. */
    private static List<Long> drained(NinetyNine x, int way) {
        List<Long> all = new ArrayList<>();
        for (int what = 0; what <= 4; what++) {
            all.add((long) x.count(what));
        }
        switch (way) {
            case 0 -> bar(x, all);
            case 1 -> {
                for (int i = 0; i < 41; i++) {
                    all.add((long) x.redo());
                }
                numbers(x, all);
                for (int i = 0; i < 41; i++) {
                    all.add((long) x.undo());
                }
                numbers(x, all);
            }
            case 2 -> {
                x.mend(0, 4, 4);
                all.add((long) x.showing(20, 4));
                all.add((long) x.feed('1'));
                all.add((long) x.law());
                all.add((long) x.feed('1'));
                all.add((long) x.showing(20, 4));
            }
            case 3 -> deeds(x, all);
            case 4 -> {
                for (int i = 0; i <= 24; i++) {
                    all.add((long) x.trace(i));
                }
                for (int n = 0; n <= 50; n++) {
                    all.add((long) x.act(n, 3, 5));
                }
                all.add((long) x.body(0));
            }
            default -> shelves(x, all);
        }
        return all;
    }

    private static void numbers(NinetyNine x, List<Long> all) {
        for (int number = 0; number <= 6; number++) {
            for (int what = 0; what <= 8; what++) {
                all.add((long) x.of(number, what));
            }
        }
    }

    private static void bar(NinetyNine x, List<Long> all) {
        numbers(x, all);
        for (int t = 0; t <= 60; t++) {
            all.add((long) x.showing(t, 4));
        }
        for (int what = 0; what <= 2; what++) {
            all.add((long) x.standing(what));
            all.add((long) x.off(what));
            all.add((long) x.where(what));
        }
        all.add((long) x.order(-1));
        all.add((long) x.patience());
        all.add((long) x.drawn(5, 9, 3, 1));
    }

    private static void deeds(NinetyNine x, List<Long> all) {
        for (int round = 0; round < 3; round++) {
            for (int what = 0; what <= 5; what++) {
                all.add((long) x.led(what));
            }
            all.add((long) (round == 0 ? x.pass(2) : round == 1 ? x.back() : x.cancel()));
        }
        for (int what = 0; what <= 5; what++) {
            all.add((long) x.led(what));
        }
    }

    private static void shelves(NinetyNine x, List<Long> all) {
        for (int shelf = 0; shelf <= 5; shelf++) {
            for (int k = 0; k <= 7; k++) {
                all.add((long) x.taken(shelf, k));
            }
            for (int i : new int[] {0, 1, 2, 3, 4, 5, 6, 57, 58, 59, 60}) {
                all.add(x.element(shelf, i));
            }
            // By what is kept of this number one sees of which sort a ROW is.
            all.add((long) x.put(shelf, 0, (1L << 40) + 300));
            all.add(x.element(shelf, 0));
        }
    }

    private void leavesAll(String what, Supplier<NinetyNine> bar, Call call) {
        for (int way = 0; way <= 5; way++) {
            NinetyNine one = bar.get();
            call.on(one);
            s.due(what + " leaves all as it was, way " + way, drained(one, way).equals(drained(bar.get(), way)) ? 1 : 0, 1);
        }
    }

    private void refuses(String what, Supplier<NinetyNine> bar, long due, Call... calls) {
        for (int i = 0; i < calls.length; i++) {
            s.due(what + ", number " + i, calls[i].on(bar.get()), due);
            leavesAll(what + ", number " + i, bar, calls[i]);
        }
    }

    private void refusedWhenFull() {
        s.says("What is answered so changes nothing.");
        Supplier<NinetyNine> f = EdgesOfRefusals::full;
        refuses("piece: BAD", f, -1, x -> x.piece(0, 1), x -> x.piece(1, 10));
        refuses("piece: FULL", f, -3, x -> x.piece(1, 1));
        refuses("pieces: BAD", f, -1, x -> x.pieces(6, 0, 1), x -> x.pieces(0, 0, 0), x -> x.pieces(0, 0, 7));
        refuses("pieces: -12", f, -12, x -> x.pieces(1, 0, 1), x -> x.pieces(3, 0, 1));
        refuses("pieces: none came", f, 0, x -> x.pieces(0, 0, 2), x -> x.pieces(2, 0, 1), x -> x.pieces(4, 0, 1), x -> x.pieces(0, -1, 1));
        refuses("mend: BAD", f, -1, x -> x.mend(6, 0, 1), x -> x.mend(-1, 0, 1), x -> x.mend(0, 0, 100), x -> x.mend(0, 1, 0),
            x -> x.mend(0, 2, 61), x -> x.mend(0, 3, -1), x -> x.mend(0, 4, 5), x -> x.mend(0, 5, 10), x -> x.mend(0, 6, 2),
            x -> x.mend(1, 4, 1), x -> x.mend(0, 7, 1), x -> x.mend(0, -1, 1));
        refuses("mend: the same number", f, 10, x -> x.mend(0, 0, 10));
        refuses("feed: BAD", f, -1, x -> x.feed(-1), x -> x.feed(256));
        refuses("feed: FULL", f, -3, x -> x.feed('1'));
        refuses("begin: STATE", f, -5, x -> x.begin());
        refuses("pass: BAD", f, -1, x -> x.pass(0), x -> x.pass(100), x -> x.pass(MIN));
        refuses("body: BAD", f, -1, x -> x.body(-1), x -> x.body(8));
        refuses("body: FULL", f, -3, x -> x.body(0));
        refuses("trace: BAD", f, -1, x -> x.trace(-1), x -> x.trace(14), x -> x.trace(24));
        refuses("keep: BAD", f, -1, x -> x.keep(6, 0), x -> x.keep(0, 50), x -> x.keep(0, -2), x -> x.keep(1, 50), x -> x.keep(2, MAX));
        refuses("row: BAD", f, -1, x -> x.row(-1, 0, 1), x -> x.row(0, 5, 1), x -> x.row(0, 0, 61), x -> x.row(1, -1, 1));
        refuses("row: -14", f, -14, x -> x.row(0, 0, -1), x -> x.row(1, 1, MIN), x -> x.row(2, 2, -1));
        refuses("put: BAD", f, -1, x -> x.put(6, 0, 1), x -> x.put(-1, 0, 1));
        refuses("put: -11", f, -11, x -> x.put(2, 0, 1));
        refuses("put: -12", f, -12, x -> x.put(1, 0, 1));
        refuses("put: -13", f, -13, x -> x.put(0, 6, 1), x -> x.put(0, -1, 1), x -> x.put(4, 0, 1), x -> x.put(3, 60, 1));
        refuses("element: none", f, Long.MIN_VALUE, x -> x.element(6, 0), x -> x.element(2, 0), x -> x.element(1, 0), x -> x.element(0, 6));
        refuses("shift: BAD", f, -1, x -> x.shift(6, 0, 0, 0, 1), x -> x.shift(0, 0, -1, 0, 1));
        refuses("shift: -11", f, -11, x -> x.shift(2, 0, 0, 0, 1), x -> x.shift(0, 0, 2, 0, 1));
        refuses("shift: -12", f, -12, x -> x.shift(1, 0, 0, 0, 1), x -> x.shift(0, 0, 1, 0, 1), x -> x.shift(0, 0, 3, 0, 1));
        refuses("shift: -13", f, -13, x -> x.shift(0, 0, 4, 0, 1), x -> x.shift(0, 0, 0, 1, 6), x -> x.shift(0, 5, 0, 0, 2),
            x -> x.shift(0, 0, 0, -1, 2), x -> x.shift(0, 0, 0, 1, -1));
        refuses("shift: none", f, 0, x -> x.shift(0, 0, 4, 0, 0), x -> x.shift(0, 6, 0, 0, 0));
        refuses("order: STATE", f, -5, x -> x.order(-1), x -> x.order(5));
        NinetyNine faulty = full();
        long place = faulty.law();
        s.due("a FAULT: it ends too early", place, -100 - 120);
        faulty.mend(0, 4, 4);
        s.due("a FAULT leaves THE LAW", faulty.showing(40, 4), full().showing(40, 4));
    }

    private void refusedWhenEmpty() {
        Supplier<NinetyNine> e = NinetyNine::new;
        refuses("pass: STATE", e, -5, x -> x.pass(1), x -> x.pass(99));
        refuses("cancel: STATE", e, -5, x -> x.cancel());
        refuses("back: STATE", e, -5, x -> x.back());
        refuses("undo: STATE", e, -5, x -> x.undo());
        refuses("redo: STATE", e, -5, x -> x.redo());
        refuses("mend: BAD", e, -1, x -> x.mend(0, 0, 1), x -> x.mend(0, 3, 1));
        refuses("mend: the same number", e, 0, x -> x.mend(0, 5, 0), x -> x.mend(0, 6, 0));
        refuses("where: NOT", e, -2, x -> x.where(0));
        refuses("order: NOT", e, -2, x -> x.order(0), x -> x.order(MAX));
        refuses("told: -11", e, -11, x -> x.told(0));
        refuses("pieces: none came", e, 0, x -> x.pieces(0, 0, 6));
        refuses("keep: BAD", e, -1, x -> x.keep(0, 0));
        refuses("law: a FAULT", e, -100, x -> x.law());
        Supplier<NinetyNine> ended = () -> {
            NinetyNine x = Checks.fifteen();
            x.begin();
            x.image();
            x.pass(15);
            x.undo();
            return x;
        };
        refuses("pass: STATE, it has ended", ended, -5, x -> x.pass(1));
        refuses("cancel: STATE, it has ended", ended, -5, x -> x.cancel());
        refuses("undo: STATE, all are UNDONE", ended, -5, x -> x.undo());
        Supplier<NinetyNine> told = Checks::fifteen;
        refuses("redo: STATE, none is UNDONE", told, -5, x -> x.redo());
        refuses("back: STATE, none was kept", told, -5, x -> x.back());
    }

    /** What only asks, by what is tried with other numbers, too, leaves all as it was. */
    private void asked() {
        Supplier<NinetyNine> f = EdgesOfRefusals::full;
        Call[] calls = {
            x -> x.of(0, 8), x -> x.showing(999, 4), x -> x.seconds(50), x -> x.standing(0), x -> x.off(1), x -> x.remains(5, 3),
            x -> x.best(0), x -> x.dead(2, 1), x -> x.patience(), x -> x.tea(3, 4), x -> x.order(-1), x -> x.told(0), x -> x.where(0),
            x -> x.where(2), x -> x.measure(0), x -> x.measure(1), x -> x.pleases(0), x -> x.pleases(1), x -> x.trust(20, 1),
            x -> x.judge(0, 5), x -> x.which(0, 5), x -> x.since(0), x -> x.stuck(0, 5), x -> x.speed(0, 5, 1), x -> x.drawn(1, 30, 5, 1),
            x -> x.led(5), x -> x.trace(3), x -> x.element(0, 3), x -> x.taken(1, 0), x -> x.count(2),
        };
        for (int i = 0; i < calls.length; i++) {
            leavesAll("what asks, number " + i, f, calls[i]);
            leavesAll("what asks of five, number " + i, EdgesOfRefusals::five, calls[i]);
        }
    }

    private static NinetyNine five() {
        NinetyNine x = new NinetyNine();
        for (int number = 0; number <= 4; number++) {
            x.piece(20 - 3 * number, 1 + number);
        }
        x.mend(0, 5, 4);
        Checks.row(x, 0, 4, 3);
        return x;
    }

    private void own() {
        s.says("All memory is the class's own.");
        for (int way = 0; way <= 5; way++) {
            NinetyNine empty = new NinetyNine();
            NinetyNine full = full();
            NinetyNine other = full();
            other.mend(0, 0, 77);
            other.undo();
            other.undo();
            other.feed('1');
            other.law();
            other.cancel();
            other.image();
            other.act(0, 0, 0);
            other.keep(0, 3);
            other.put(5, 0, 9);
            s.due("an empty bar beside full ones, way " + way, drained(empty, way).equals(drained(new NinetyNine(), way)) ? 1 : 0, 1);
            s.due("a full bar beside another, way " + way, drained(full, way).equals(drained(full(), way)) ? 1 : 0, 1);
        }
    }
}
