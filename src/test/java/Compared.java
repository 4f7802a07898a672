import java.util.Random;

/**
 * A new NinetyNine and a new Oracle, of which the same is asked, call by call as they fall: the first answer in which
 * they differ ends the test. No call may throw.
 */
final class Compared {
    private static final String[] TEXTS = {
        "b", "f", "s", "t", "l+1", "t*t/100", "b<90?b*9/10;81+(t-90)*2-l/99", "n*9", "l<t?l+3;t", "100-t", "t%7=0?l;b",
        "!(t/10%2)*99", "-(-b)", "(b+f+s+t)/4", "b>s?b;s", "l=0?40;l-1", "99", "0", "b&t|s?99;0", "t<50?0;99+(t=100)",
        "7/(t%3)", "1<2&2<3?b%(n+1)", "9999*9999*t", "t>90?99;t",
    };

    final NinetyNine x = new NinetyNine();
    final Oracle due = new Oracle();
    final Random random;
    /** The calls that both were asked; and those of them that were neither letters nor elements. */
    int all = 0;
    int made = 0;
    private final Checks c;
    private final StringBuilder calls = new StringBuilder();

    Compared(Checks c, long seed) {
        this.c = c;
        this.random = new Random(seed);
    }

    void same(String call, long got, long want) {
        calls.append(call).append(' ');
        made++;
        all++;
        if (got != want) {
            c.due(calls.toString(), got, want);
            throw new IllegalStateException("the first answer that is not as due ends the test: " + calls + got + ", due " + want);
        }
        c.that(call, true);
    }

    /** Mostly within least .. most, at times one beyond, at times far beyond. */
    int within(int least, int most) {
        int how = random.nextInt(60);
        if (how == 0) return least - 1;
        if (how == 1) return most + 1;
        if (how == 2) {
            int[] wild = {Integer.MIN_VALUE, Integer.MAX_VALUE, -1, 60, 100, 1000, 1 << 30, -1 << 30};
            return wild[random.nextInt(wild.length)];
        }
        return least + random.nextInt(most - least + 1);
    }

    int second() {
        int length = Math.max(0, due.of(0, 8));
        int how = random.nextInt(10);
        return how == 0 ? within(0, 999) : how == 1 ? within(940, 999) : within(0, Math.min(999, length + 3));
    }

    void piece(int small) {
        int bytes = within(1, small == 0 ? 99 : 20);
        int speed = within(1, 9);
        same("piece " + bytes + " " + speed, x.piece(bytes, speed), due.piece(bytes, speed));
    }

    void one(int which, int small) {
        if (which < 12) mend(small);
        else if (which < 20) text();
        else if (which < 34) asked();
        else if (which < 44) guessed();
        else if (which < 54) lied(small);
        else if (which < 66) seen();
        else if (which < 76) deed();
        else if (which < 86) act();
        else shelf(small);
    }

    void mend(int small) {
        int what = within(0, 6);
        int number = what >= 4 ? random.nextInt(10) == 0 ? 1 : 0 : within(0, Math.max(0, due.count(0) - 1));
        int[] most = {small == 0 ? 99 : 20, 9, small == 2 ? 6 : 60, 9, 4, 9, 1};
        int v = what < 0 || what > 6 ? 1 : within(what < 2 ? 1 : 0, most[what]);
        if (what == 3 && random.nextBoolean()) v = 0;
        same("mend " + number + " " + what + " " + v, x.mend(number, what, v), due.mend(number, what, v));
        int n = within(0, 5);
        int w = within(0, 8);
        same("of " + n + " " + w, x.of(n, w), due.of(n, w));
        if (random.nextInt(4) == 0) same("undo", x.undo(), due.undo());
        if (random.nextInt(4) == 0) same("redo", x.redo(), due.redo());
    }

    void text() {
        String text = TEXTS[random.nextInt(TEXTS.length)];
        int how = random.nextInt(4);
        if (how == 0) {
            text = text + ";" + TEXTS[random.nextInt(TEXTS.length)];
        }
        if (how >= 2) {
            text = garbled(text);
        }
        if (random.nextInt(8) == 0) {
            text = drawnText();
        }
        for (int i = 0; i < text.length(); i++) {
            int letter = text.charAt(i);
            same("feed " + letter, x.feed(letter), due.feed(letter));
            made--;
        }
        int letter = within(0, 255);
        if (random.nextInt(6) == 0) same("feed " + letter, x.feed(letter), due.feed(letter));
        if (random.nextInt(8) != 0) same("law of " + text, x.law(), due.law());
    }

    private String garbled(String text) {
        StringBuilder b = new StringBuilder(text);
        String letters = "bfstln0123456789|&<=>+-*/%!()?;; x";
        for (int i = random.nextInt(3); i >= 0; i--) {
            int at = random.nextInt(b.length() + 1);
            char letter = letters.charAt(random.nextInt(letters.length()));
            if (random.nextBoolean() || at == b.length()) b.insert(at, letter);
            else if (random.nextBoolean()) b.setCharAt(at, letter);
            else if (b.length() > 1) b.deleteCharAt(at);
        }
        return b.toString();
    }

    /** A text by the grammar, mostly; with too many open at times, and cut off at times. */
    private String drawnText() {
        StringBuilder b = new StringBuilder();
        for (int lines = 1 + random.nextInt(3); lines > 0; lines--) {
            either(b, 0);
            if (random.nextBoolean()) {
                b.append('?');
                either(b, 0);
            }
            if (lines > 1) b.append(';');
        }
        return b.length() > 120 || random.nextInt(5) == 0 ? b.substring(0, random.nextInt(Math.min(121, b.length()))) : b.toString();
    }

    private void either(StringBuilder b, int deep) {
        String[] signs = {"|", "&", "<=>", "+-", "*/%"};
        int parts = 1 + (random.nextInt(3) == 0 ? 1 + random.nextInt(3) : 0);
        for (int i = 0; i < parts; i++) {
            String kind = signs[random.nextInt(5)];
            if (i > 0) b.append(kind.charAt(random.nextInt(kind.length())));
            int how = random.nextInt(deep > 7 ? 2 : 6);
            if (how == 0) b.append(random.nextInt(random.nextBoolean() ? 10000 : 100));
            else if (how <= 2) b.append("bfstln".charAt(random.nextInt(6)));
            else if (how == 3) {
                b.append('(');
                either(b, deep + 1);
                b.append(')');
            } else {
                b.append(how == 4 ? '!' : '-').append("bfstln".charAt(random.nextInt(6)));
            }
        }
    }

    void asked() {
        int t = second();
        int what = within(0, 5);
        int cent = within(0, 100);
        int three = within(0, 2);
        switch (random.nextInt(4)) {
            case 0 -> same("seconds " + cent, x.seconds(cent), due.seconds(cent));
            case 1 -> same("standing " + three, x.standing(three), due.standing(three));
            case 2 -> same("off " + three, x.off(three), due.off(three));
            default -> same("showing " + t + " " + what, x.showing(t, what), due.showing(t, what));
        }
    }

    void guessed() {
        int t = second();
        int w = random.nextBoolean() ? within(-1, 3) : within(-1, 60);
        int three = within(0, 2);
        int d = random.nextBoolean() ? within(1, 12) : within(1, 999);
        int s = random.nextBoolean() ? within(1, 40) : within(1, 999);
        switch (random.nextInt(6)) {
            case 0 -> same("best " + three, x.best(three), due.best(three));
            case 1, 2 -> same("dead " + d + " " + three, x.dead(d, three), due.dead(d, three));
            case 3 -> same("patience", x.patience(), due.patience());
            case 4 -> same("tea " + t + " " + s, x.tea(t, s), due.tea(t, s));
            default -> same("remains " + t + " " + w, x.remains(t, w), due.remains(t, w));
        }
    }

    void lied(int small) {
        int k = within(-1, 5);
        int shelf = within(0, 5);
        int three = within(0, 2);
        int two = within(0, 1);
        int n = within(1, 20);
        switch (random.nextInt(6)) {
            case 0 -> {
                if (due.count(0) < 5 || small > 0 || random.nextInt(8) == 0) same("order " + k, x.order(k), due.order(k));
            }
            case 1 -> same("told " + shelf, x.told(shelf), due.told(shelf));
            case 2 -> same("where " + three, x.where(three), due.where(three));
            case 3 -> same("measure " + two, x.measure(two), due.measure(two));
            case 4 -> same("pleases " + two, x.pleases(two), due.pleases(two));
            default -> same("trust " + n + " " + two, x.trust(n, two), due.trust(n, two));
        }
    }

    /** A row that was shown, by the bar as it is or as it would be with another number. */
    void show(int shelf, int t) {
        int n = random.nextInt(10) == 0 ? 60 : random.nextInt(6);
        same("row " + shelf + " 0 " + n, x.row(shelf, 0, n), due.row(shelf, 0, n));
        boolean other = random.nextBoolean() && due.count(0) > 0;
        if (other) {
            int piece = random.nextInt(due.count(0));
            int what = 1 + random.nextInt(2);
            int v = what == 1 ? 1 + random.nextInt(9) : random.nextInt(61);
            same("mend " + piece + " " + what + " " + v, x.mend(piece, what, v), due.mend(piece, what, v));
        }
        for (int i = 0; i < n && due.count(0) >= 0; i++) {
            int cent = t + i > 999 || t < 0 ? 7 : due.showing(t + i, 4);
            same("put " + shelf + " " + i + " " + cent, x.put(shelf, i, cent), due.put(shelf, i, cent));
            made--;
        }
        if (other) same("undo", x.undo(), due.undo());
    }

    void seen() {
        int shelf = within(0, 5);
        int t = second();
        if (random.nextInt(4) > 0 && shelf >= 0 && shelf <= 5) show(shelf, t);
        int piece = within(0, 5);
        int seed = random.nextInt();
        int n = within(1, 30);
        int d = random.nextInt(4) == 0 ? within(1, 999) : within(1, 20);
        int two = within(0, 1);
        switch (random.nextInt(6)) {
            case 0 -> same("judge " + shelf + " " + t, x.judge(shelf, t), due.judge(shelf, t));
            case 1 -> same("which " + shelf + " " + t, x.which(shelf, t), due.which(shelf, t));
            case 2 -> same("since " + shelf, x.since(shelf), due.since(shelf));
            case 3 -> same("stuck " + shelf + " " + t, x.stuck(shelf, t), due.stuck(shelf, t));
            case 4 -> same("speed " + shelf + " " + t + " " + piece, x.speed(shelf, t, piece), due.speed(shelf, t, piece));
            default -> same("drawn " + seed + " " + n + " " + d + " " + two, x.drawn(seed, n, d, two), due.drawn(seed, n, d, two));
        }
    }

    void deed() {
        int s = random.nextBoolean() ? within(1, 10) : within(1, 99);
        switch (random.nextInt(10)) {
            case 0, 1 -> same("begin", x.begin(), due.begin());
            case 2 -> same("cancel", x.cancel(), due.cancel());
            case 3 -> same("image", x.image(), due.image());
            case 4 -> same("back", x.back(), due.back());
            default -> same("pass " + s, x.pass(s), due.pass(s));
        }
        int what = within(0, 5);
        same("led " + what, x.led(what), due.led(what));
    }

    void act() {
        int kind = within(0, 7);
        int body = within(0, Math.max(0, due.count(3)));
        int act = within(0, 3);
        int with = random.nextBoolean() ? random.nextInt() : random.nextInt(50);
        if (random.nextBoolean()) same("body " + kind, x.body(kind), due.body(kind));
        same("act " + body + " " + act + " " + with, x.act(body, act, with), due.act(body, act, with));
        int i = within(0, 14);
        same("trace " + i, x.trace(i), due.trace(i));
        int what = within(0, 4);
        same("count " + what, x.count(what), due.count(what));
    }

    void shelf(int small) {
        int shelf = within(0, 5);
        int other = random.nextInt(3) == 0 ? shelf : within(0, 5);
        int body = within(-1, Math.max(0, due.count(3) - 1));
        int sort = random.nextBoolean() ? 0 : within(0, 4);
        int size = random.nextBoolean() ? within(0, 12) : within(0, 60);
        int i = within(0, 11);
        int j = within(0, 11);
        int n = within(0, 6);
        long v = random.nextInt(4) == 0 ? random.nextLong() : random.nextInt(small == 0 ? 110 : 12);
        switch (random.nextInt(9)) {
            case 0 -> same("keep " + shelf + " " + body, x.keep(shelf, body), due.keep(shelf, body));
            case 1 -> same("row " + shelf + " " + sort + " " + size, x.row(shelf, sort, size), due.row(shelf, sort, size));
            case 2 -> same("element " + shelf + " " + i, x.element(shelf, i), due.element(shelf, i));
            case 3 -> {
                same("shift " + shelf + " " + i + " " + other + " " + j + " " + n,
                    x.shift(shelf, i, other, j, n), due.shift(shelf, i, other, j, n));
                same("element " + other + " " + j, x.element(other, j), due.element(other, j));
            }
            case 4 -> same("taken " + shelf + " " + n, x.taken(shelf, n), due.taken(shelf, n));
            case 5 -> {
                int many = within(1, 6);
                same("pieces " + shelf + " " + i + " " + many, x.pieces(shelf, i, many), due.pieces(shelf, i, many));
            }
            default -> same("put " + shelf + " " + i + " " + v, x.put(shelf, i, v), due.put(shelf, i, v));
        }
    }
}
