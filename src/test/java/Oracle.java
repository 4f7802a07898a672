import java.util.ArrayList;
import java.util.List;

/**
 * The document once more, slow and plain, to compare answers with: each second is lived through one by one, each law
 * is read again each time, nothing is kept from call to call but what was told.
 */
final class Oracle {
    static final class Piece {
        int bytes;
        int speed;
        int stuck;
        int files = 1;

        Piece(int bytes, int speed, int stuck) {
            this.bytes = bytes;
            this.speed = speed;
            this.stuck = stuck;
        }

        Piece like() {
            Piece p = new Piece(bytes, speed, stuck);
            p.files = files;
            return p;
        }
    }

    /** What is told: all on which a showing hangs. */
    static final class Told {
        List<Piece> pieces = new ArrayList<>();
        int measure = 1;
        int smooth = 0;
        int never = 0;

        Told like() {
            Told t = new Told();
            for (Piece p : pieces) {
                t.pieces.add(p.like());
            }
            t.measure = measure;
            t.smooth = smooth;
            t.never = never;
            return t;
        }
    }

    private Told told = new Told();
    private String tape = "";
    private String law = null;
    private final List<int[]> done = new ArrayList<>();
    private final List<int[]> undone = new ArrayList<>();
    private int[] led = {0, 0, 0, 0, 0, -2};
    private int[] image = null;
    private final List<Integer> bodies = new ArrayList<>();
    private List<Integer> trace = new ArrayList<>();
    /** Nothing (null), a body's number (Integer), or a row (long[], its first element the sort). */
    private final Object[] shelves = new Object[6];

    // ---- pieces

    int piece(int bytes, int speed) {
        if (bytes < 1 || bytes > 99 || speed < 1 || speed > 9) return -1;
        if (told.pieces.size() == 6) return -3;
        told.pieces.add(new Piece(bytes, speed, 0));
        return told.pieces.size() - 1;
    }

    int pieces(int shelf, int i, int n) {
        if (shelf < 0 || shelf > 5 || n < 1 || n > 6) return -1;
        if (shelves[shelf] == null) return 0;
        if (noBytes(shelf) != 0) return -12;
        long[] row = (long[]) shelves[shelf];
        int came = 0;
        for (; came < n; came++) {
            long at = i + 1L + 3L * came;
            if (at < 1 || at + 2 >= row.length || told.pieces.size() == 6) break;
            int b = (int) row[(int) at];
            int s = (int) row[(int) at + 1];
            int w = (int) row[(int) at + 2];
            if (b < 1 || b > 99 || s < 1 || s > 9 || w < 0 || w > 60) break;
            told.pieces.add(new Piece(b, s, w));
        }
        return came;
    }

    private int get(int number, int what) {
        if (what >= 4) return what == 4 ? told.measure : what == 5 ? told.smooth : told.never;
        Piece p = told.pieces.get(number);
        return what == 0 ? p.bytes : what == 1 ? p.speed : what == 2 ? p.stuck : p.files;
    }

    private void set(int number, int what, int v) {
        if (what == 4) told.measure = v;
        if (what == 5) told.smooth = v;
        if (what == 6) told.never = v;
        if (what == 0) told.pieces.get(number).bytes = v;
        if (what == 1) told.pieces.get(number).speed = v;
        if (what == 2) told.pieces.get(number).stuck = v;
        if (what == 3) told.pieces.get(number).files = v;
    }

    private boolean known(int number, int what) {
        if (what < 0 || what > 6) return false;
        return what < 4 ? number >= 0 && number < told.pieces.size() : number == 0;
    }

    int mend(int number, int what, int v) {
        if (!known(number, what)) return -1;
        boolean good = switch (what) {
            case 0 -> v >= 1 && v <= 99;
            case 1 -> v >= 1 && v <= 9;
            case 2 -> v >= 0 && v <= 60;
            case 3, 5 -> v >= 0 && v <= 9;
            case 4 -> v >= 0 && v <= 4;
            default -> v == 0 || v == 1;
        };
        if (!good) return -1;
        int was = get(number, what);
        if (was != v) {
            set(number, what, v);
            done.add(new int[] {number, what, was, v});
            if (done.size() > 40) done.remove(0);
            undone.clear();
        }
        return was;
    }

    int of(int number, int what) {
        if (what == 7) return number >= 0 && number < told.pieces.size() ? takes(told.pieces.get(number)) : -1;
        if (what == 8) return number == 0 ? length(told) : -1;
        return known(number, what) ? get(number, what) : -1;
    }

    int feed(int letter) {
        if (letter < 0 || letter > 255) return -1;
        if (tape.length() == 120) return -3;
        tape += (char) letter;
        return tape.length();
    }

    int law() {
        String text = tape;
        tape = "";
        for (int n = 0; n <= text.length(); n++) {
            if (!Text.begins(text.substring(0, n))) return -100 - (n - 1);
        }
        if (!Text.ends(text)) return -100 - text.length();
        law = text;
        return 1;
    }

    /** Texts, by what stands open behind each byte, not by levels. */
    static final class Text {
        private static final int OPERAND = 0, NUMBER = 1, OPERATOR = 2;

        static boolean begins(String text) {
            return state(text) >= 0;
        }

        static boolean ends(String text) {
            int state = state(text);
            return state >= 10;
        }

        /** Below 0: no text begins so; 10 or above: one ends so. */
        private static int state(String text) {
            int wants = OPERAND;
            int digits = 0;
            boolean condition = false;
            // A ( is kept as such with whether a comparison stands ahead of it; ! and - as such until their operand is whole.
            StringBuilder open = new StringBuilder();
            boolean compared = false;
            for (char c : text.toCharArray()) {
                if (wants == NUMBER && c >= '0' && c <= '9') {
                    digits++;
                    if (digits > 4) return -1;
                    continue;
                }
                if (wants == OPERAND) {
                    if (c >= '0' && c <= '9' || "bfstln".indexOf(c) >= 0) {
                        wants = c <= '9' ? NUMBER : OPERATOR;
                        digits = 1;
                        closeSigns(open);
                    } else if ("(!-".indexOf(c) >= 0) {
                        if (open.length() == 6) return -1;
                        open.append(c == '(' && compared ? '[' : c);
                        compared = c == '(' ? false : compared;
                    } else {
                        return -1;
                    }
                    continue;
                }
                wants = OPERAND;
                boolean inside = open.indexOf("(") >= 0 || open.indexOf("[") >= 0;
                if (c == ')') {
                    if (!inside) return -1;
                    compared = open.charAt(open.length() - 1) == '[';
                    open.setLength(open.length() - 1);
                    closeSigns(open);
                    wants = OPERATOR;
                } else if ("<=>".indexOf(c) >= 0) {
                    if (compared) return -1;
                    compared = true;
                } else if (c == '|' || c == '&') {
                    compared = false;
                } else if (c == '?') {
                    if (inside || condition) return -1;
                    condition = true;
                    compared = false;
                } else if (c == ';') {
                    if (inside) return -1;
                    condition = false;
                    compared = false;
                } else if ("+-*/%".indexOf(c) < 0) {
                    return -1;
                }
            }
            return (wants != OPERAND ? 10 : 0) - (open.length() > 0 && wants != OPERAND ? 10 : 0);
        }

        private static void closeSigns(StringBuilder open) {
            while (open.length() > 0 && "!-".indexOf(open.charAt(open.length() - 1)) >= 0) {
                open.setLength(open.length() - 1);
            }
        }

        /** The value of a text: names b, f, s, t, l, n in this order. */
        static int value(String text, int[] names) {
            for (String line : text.split(";")) {
                int mark = line.indexOf('?');
                if (mark < 0) return worth(line, names);
                if (worth(line.substring(0, mark), names) != 0) return worth(line.substring(mark + 1), names);
            }
            return 0;
        }

        /** Splits at the last sign of the loosest kind that stands open nowhere. */
        private static int worth(String e, int[] names) {
            for (String signs : new String[] {"|", "&", "<=>", "+-", "*/%"}) {
                int deep = 0;
                for (int i = e.length() - 1; i > 0; i--) {
                    char c = e.charAt(i);
                    if (c == ')') deep++;
                    if (c == '(') deep--;
                    boolean joins = "|&<=>+-*/%(!".indexOf(e.charAt(i - 1)) < 0;
                    if (deep == 0 && joins && signs.indexOf(c) >= 0) {
                        return join(c, worth(e.substring(0, i), names), worth(e.substring(i + 1), names));
                    }
                }
            }
            char c = e.charAt(0);
            if (c == '!') return worth(e.substring(1), names) == 0 ? 1 : 0;
            if (c == '-') return -worth(e.substring(1), names);
            if (c == '(') return worth(e.substring(1, e.length() - 1), names);
            int name = "bfstln".indexOf(c);
            return name >= 0 ? names[name] : Integer.parseInt(e);
        }

        private static int join(char c, int a, int b) {
            return switch (c) {
                case '|' -> a != 0 || b != 0 ? 1 : 0;
                case '&' -> a != 0 && b != 0 ? 1 : 0;
                case '<' -> a < b ? 1 : 0;
                case '=' -> a == b ? 1 : 0;
                case '>' -> a > b ? 1 : 0;
                case '+' -> a + b;
                case '-' -> a - b;
                case '*' -> a * b;
                case '/' -> b == 0 ? 0 : a / b;
                default -> b == 0 ? 0 : a % b;
            };
        }
    }

    // ---- showing

    private static int takes(Piece p) {
        int seconds = p.stuck;
        for (int left = p.bytes; left > 0; left -= p.speed) seconds++;
        return seconds;
    }

    private static int length(Told told) {
        int sum = 0;
        for (Piece p : told.pieces) sum += takes(p);
        return sum;
    }

    /** By second 0 .. last: per cent of FILES, BYTES, STEPS, TIME, SHOWN, then COME. */
    private int[][] live(Told told, int last) {
        int[][] all = new int[last + 1][];
        int bytes = 0;
        int files = 0;
        for (Piece p : told.pieces) {
            bytes += p.bytes;
            files += p.files;
        }
        int length = length(told);
        int at = 0;
        int own = 0;
        int come = 0;
        int comeOfPiece = 0;
        int filesDone = 0;
        int ahead = 0;
        for (int t = 0; t <= last; t++) {
            if (t > 0 && at < told.pieces.size()) {
                Piece p = told.pieces.get(at);
                own++;
                if (own > p.stuck) {
                    int more = Math.min(p.speed, p.bytes - comeOfPiece);
                    comeOfPiece += more;
                    come += more;
                }
                if (own > p.stuck && comeOfPiece == p.bytes) {
                    filesDone += p.files;
                    at++;
                    own = 0;
                    comeOfPiece = 0;
                }
            }
            int n = told.pieces.size();
            int[] cents = new int[6];
            cents[0] = files == 0 ? 100 : 100 * filesDone / files;
            cents[1] = n == 0 ? 100 : 100 * come / bytes;
            cents[2] = n == 0 ? 100 : 100 * at / n;
            cents[3] = n == 0 ? 100 : 100 * Math.min(t, length) / length;
            int cent = cents[told.measure == 4 ? 1 : told.measure];
            if (told.measure == 4 && law != null) {
                cent = Text.value(law, new int[] {cents[1], cents[0], cents[2], cents[3], ahead, n});
                cent = Math.max(0, Math.min(100, cent));
            }
            if (told.never == 1) cent = Math.max(cent, ahead);
            if (told.smooth > 0) cent = Math.min(cent, ahead + told.smooth);
            cents[4] = cent;
            cents[5] = come;
            ahead = cent;
            all[t] = cents;
        }
        return all;
    }

    private int[][] whole(Told told) {
        return live(told, length(told));
    }

    int showing(int t, int what) {
        if (t < 0 || t > 999 || what < 0 || what > 5) return -1;
        return live(told, t)[t][what];
    }

    int seconds(int cent) {
        if (cent < 0 || cent > 100) return -1;
        int sum = 0;
        for (int[] second : whole(told)) if (second[4] == cent) sum++;
        return sum;
    }

    private int[] stands(Told told) {
        int[][] all = whole(told);
        int[] best = {0, 0, 0};
        for (int from = 0; from < all.length; from++) {
            int n = 0;
            while (from + n < all.length && all[from + n][4] == all[from][4]) n++;
            if (n > best[0]) best = new int[] {n, from, all[from][4]};
        }
        return best;
    }

    int standing(int what) {
        return what < 0 || what > 2 ? -1 : stands(told)[what];
    }

    private int[] offs(Told told) {
        int[][] all = whole(told);
        int[] off = {0, 0, 0};
        for (int t = 0; t < all.length; t++) {
            int far = Math.abs(all[t][4] - all[t][3]);
            off[1] += far;
            if (far > off[0]) {
                off[0] = far;
                off[2] = t;
            }
        }
        return off;
    }

    int off(int what) {
        return what < 0 || what > 2 ? -1 : offs(told)[what];
    }

    private int remains(int[][] all, int t, int w) {
        int from = w == 0 ? 0 : Math.max(0, t - w);
        int came = all[t][5] - all[from][5];
        if (came == 0) return -2;
        int lack = all[all.length - 1][5] - all[t][5];
        int up = (t - from) * lack;
        return up / came + (up % came > 0 ? 1 : 0);
    }

    int remains(int t, int w) {
        int length = length(told);
        if (t < 1 || t > length || w < -1 || w > 60) return -1;
        return w == -1 ? length - t : remains(whole(told), t, w);
    }

    int best(int what) {
        if (what < 0 || what > 2) return -1;
        int[][] all = whole(told);
        int[] sums = new int[61];
        int by = 1;
        for (int w = 0; w <= 60; w++) {
            for (int t = 1; t < all.length; t++) {
                int r = remains(all, t, w);
                int far = r == -2 ? 999 : Math.abs(r - (all.length - 1 - t));
                sums[w] += Math.min(999, far);
            }
            if (w > 0 && sums[w] < sums[by]) by = w;
        }
        return what == 0 ? by : what == 1 ? sums[by] : sums[0];
    }

    private int deadIn(Told told, int d) {
        int[][] all = whole(told);
        for (int t = d; t < all.length - 1; t++) {
            boolean same = true;
            for (int k = t - d; k < t; k++) same &= all[k][4] == all[t][4];
            if (same) return t;
        }
        return -2;
    }

    int dead(int d, int what) {
        if (d < 1 || d > 999 || what < 0 || what > 2) return -1;
        int t = deadIn(told, d);
        if (t == -2 || what == 0) return t;
        return what == 1 ? live(told, t)[t][5] : length(told) - t;
    }

    int patience() {
        for (int d = 1; ; d++) if (deadIn(told, d) == -2) return d;
    }

    int tea(int t, int s) {
        if (t < 0 || t > 999 || s < 1 || s > 999) return -1;
        return t + s <= length(told) ? 1 : 0;
    }

    // ---- orders, lies

    private int offIn(List<Integer> order) {
        return offs(arranged(order))[1];
    }

    private Told arranged(List<Integer> order) {
        Told other = told.like();
        for (int k = 0; k < order.size(); k++) other.pieces.set(k, told.pieces.get(order.get(k)).like());
        return other;
    }

    private static void orders(List<Integer> ahead, int n, List<List<Integer>> all) {
        if (ahead.size() == n) {
            all.add(new ArrayList<>(ahead));
            return;
        }
        for (int p = 0; p < n; p++) {
            if (ahead.contains(p)) continue;
            ahead.add(p);
            orders(ahead, n, all);
            ahead.remove(ahead.size() - 1);
        }
    }

    int order(int k) {
        int n = told.pieces.size();
        if (k < -1) return -1;
        if (n > 5) return -5;
        if (k >= n) return -2;
        List<List<Integer>> all = new ArrayList<>();
        orders(new ArrayList<>(), n, all);
        List<Integer> best = all.get(0);
        int least = offIn(best);
        for (List<Integer> order : all) {
            int off = offIn(order);
            if (off < least) {
                least = off;
                best = order;
            }
        }
        return k == -1 ? least : best.get(k);
    }

    private int noBytes(int shelf) {
        if (shelves[shelf] == null) return -11;
        return shelves[shelf] instanceof long[] row && row[0] == 0 ? 0 : -12;
    }

    int told(int shelf) {
        if (shelf < 0 || shelf > 5) return -1;
        if (noBytes(shelf) != 0) return noBytes(shelf);
        List<Integer> order = new ArrayList<>();
        long[] row = (long[]) shelves[shelf];
        for (int i = 1; i < row.length; i++) {
            int p = (int) row[i];
            if (p >= 0 && p < told.pieces.size() && !order.contains(p)) order.add(p);
        }
        for (int p = 0; p < told.pieces.size(); p++) if (!order.contains(p)) order.add(p);
        return offIn(order);
    }

    int where(int what) {
        if (what < 0 || what > 2) return -1;
        int n = told.pieces.size();
        if (n == 0) return -2;
        int big = 0;
        for (int p = 0; p < n; p++) if (told.pieces.get(p).bytes > told.pieces.get(big).bytes) big = p;
        int byOff = 0;
        int byStand = 0;
        int[] off = new int[n];
        int[] stand = new int[n];
        for (int place = 0; place < n; place++) {
            List<Integer> order = new ArrayList<>();
            for (int p = 0; p < n; p++) if (p != big) order.add(p);
            order.add(place, big);
            off[place] = offIn(order);
            stand[place] = stands(arranged(order))[0];
            if (off[place] < off[byOff]) byOff = place;
            if (stand[place] < stand[byStand]) byStand = place;
        }
        return what == 0 ? byOff : what == 1 ? off[byOff] : byStand;
    }

    int measure(int what) {
        if (what < 0 || what > 1) return -1;
        int[] rank = new int[4];
        int best = 0;
        for (int m = 0; m < 4; m++) {
            Told other = told.like();
            other.measure = m;
            if (what == 0) rank[m] = offs(other)[1];
            else for (int[] second : whole(other)) if (second[4] == 99) rank[m]++;
            if (rank[m] < rank[best]) best = m;
        }
        return best;
    }

    private int pleasure(Told told) {
        int[][] all = whole(told);
        int sum = 0;
        for (int t = 1; t < all.length; t++) sum += (all[t][4] - all[t - 1][4]) * t;
        return sum;
    }

    int pleases(int what) {
        if (what < 0 || what > 1) return -2000000000;
        if (what == 0) return pleasure(told);
        int[] by = new int[10];
        int best = 0;
        for (int s = 0; s < 10; s++) {
            Told other = told.like();
            other.smooth = s;
            by[s] = pleasure(other);
            if (by[s] > by[best]) best = s;
        }
        return best;
    }

    int trust(int n, int what) {
        if (n < 1 || n > 20 || what < 0 || what > 1) return -1;
        int trust = 50;
        int first = -2;
        for (int i = 1; i <= n; i++) {
            trust = trust - offs(told)[0] / 2 + 10;
            trust = Math.max(0, Math.min(100, trust));
            if (trust < 20 && first == -2) first = i;
        }
        return what == 0 ? trust : first;
    }

    // ---- seen

    private int judged(Told told, int shelf, int t) {
        long[] row = (long[]) shelves[shelf];
        int[][] all = live(told, Math.min(999, t + row.length));
        for (int i = 0; i + 1 < row.length; i++) {
            if (t + i > 999 || all[t + i][4] != row[i + 1]) return i;
        }
        return -2;
    }

    private int refused(int shelf, int t) {
        if (shelf < 0 || shelf > 5 || t < 0 || t > 999) return -1;
        return noBytes(shelf);
    }

    int judge(int shelf, int t) {
        return refused(shelf, t) != 0 ? refused(shelf, t) : judged(told, shelf, t);
    }

    int which(int shelf, int t) {
        if (refused(shelf, t) != 0) return refused(shelf, t);
        int bits = 0;
        for (int m = 0; m <= 4; m++) {
            Told other = told.like();
            other.measure = m;
            if (judged(other, shelf, t) == -2) bits += 1 << m;
        }
        return bits;
    }

    int since(int shelf) {
        if (refused(shelf, 0) != 0) return refused(shelf, 0);
        long[] row = (long[]) shelves[shelf];
        int[][] all = live(told, 999);
        for (int t = 0; t <= 999; t++) {
            boolean so = true;
            for (int i = 0; i + 1 < row.length; i++) so &= t + i <= 999 && all[t + i][4] == row[i + 1];
            if (so) return t;
        }
        return -2;
    }

    int stuck(int shelf, int t) {
        if (refused(shelf, t) != 0) return refused(shelf, t);
        for (int p = 0; p < told.pieces.size(); p++) {
            for (int s = 0; s <= 60; s++) {
                Told other = told.like();
                other.pieces.get(p).stuck = s;
                if (judged(other, shelf, t) == -2) return 100 * p + s;
            }
        }
        return -2;
    }

    int speed(int shelf, int t, int piece) {
        if (piece < 0 || piece >= told.pieces.size()) return -1;
        if (refused(shelf, t) != 0) return refused(shelf, t);
        for (int s = 1; s <= 9; s++) {
            Told other = told.like();
            other.pieces.get(piece).speed = s;
            if (judged(other, shelf, t) == -2) return s;
        }
        return -2;
    }

    int drawn(int seed, int n, int d, int what) {
        if (n < 1 || n > 30 || d < 1 || d > 999 || what < 0 || what > 1) return -1;
        int z = seed;
        int[] sums = new int[2];
        for (int i = 0; i < n; i++) {
            Told other = told.like();
            for (Piece p : other.pieces) {
                z = z * 1103515245 + 12345;
                switch ((z >>> 8) % 4) {
                    case 0 -> p.speed = p.speed == 1 ? 1 : p.speed / 2;
                    case 3 -> p.speed = p.speed + p.speed;
                    default -> { }
                }
            }
            sums[0] += length(other);
            if (deadIn(other, d) != -2) sums[1]++;
        }
        return sums[what];
    }

    // ---- in deed

    int begin() {
        if (led[5] != -2) return -5;
        led[5] = 0;
        led[0]++;
        return length(told);
    }

    int pass(int s) {
        if (s < 1 || s > 99) return -1;
        if (led[5] == -2) return -5;
        for (int i = 0; i < s && led[5] < 999; i++) {
            led[5]++;
            led[3]++;
        }
        int cent = showing(led[5], 4);
        if (led[5] >= length(told) && cent == 100) {
            led[5] = -2;
            led[1]++;
        }
        return cent;
    }

    int cancel() {
        if (led[5] == -2) return -5;
        int lost = showing(led[5], 5);
        led[5] = -2;
        led[2]++;
        led[4] += lost;
        return lost;
    }

    int led(int what) {
        return what < 0 || what > 5 ? -1 : led[what];
    }

    int image() {
        image = led.clone();
        return led[0];
    }

    int back() {
        if (image == null) return -5;
        led = image.clone();
        return led[0];
    }

    int undo() {
        if (done.isEmpty()) return -5;
        int[] change = done.remove(done.size() - 1);
        undone.add(change);
        set(change[0], change[1], change[2]);
        return done.size();
    }

    int redo() {
        if (undone.isEmpty()) return -5;
        int[] change = undone.remove(undone.size() - 1);
        done.add(change);
        set(change[0], change[1], change[3]);
        return undone.size();
    }

    // ---- acts, shelves

    /** Kinds as Java has them: what the document calls above is a class above here. */
    interface Fills {
        int n();

        List<Integer> ran();

        default int fills(int x) {
            ran().add(1);
            return x + n();
        }
    }

    interface Tells {
        int n();

        List<Integer> ran();

        int shows(int x);

        int stands(int x);

        default int tells(int x) {
            ran().add(2);
            return shows(x) - stands(1);
        }
    }

    static class Step implements Fills, Tells {
        final int n;
        final List<Integer> ran;

        Step(int n, List<Integer> ran) {
            this.n = n;
            this.ran = ran;
        }

        @Override public int n() {
            return n;
        }

        @Override public List<Integer> ran() {
            return ran;
        }

        @Override public int shows(int x) {
            ran.add(10);
            return fills(x) * 2;
        }

        @Override public int stands(int x) {
            ran.add(11);
            return x ^ n;
        }
    }

    static class File extends Step {
        File(int n, List<Integer> ran) {
            super(n, ran);
        }

        @Override public int fills(int x) {
            ran.add(20);
            return super.fills(x) + 3;
        }
    }

    static class Byte extends Step {
        Byte(int n, List<Integer> ran) {
            super(n, ran);
        }

        @Override public int shows(int x) {
            ran.add(30);
            return -super.shows(x);
        }
    }

    static class Wheel extends Byte {
        Wheel(int n, List<Integer> ran) {
            super(n, ran);
        }

        @Override public int stands(int x) {
            ran.add(40);
            return super.stands(x) * 3;
        }

        @Override public int shows(int x) {
            ran.add(41);
            return super.shows(x + 1);
        }
    }

    static class Lie extends File {
        Lie(int n, List<Integer> ran) {
            super(n, ran);
        }

        @Override public int stands(int x) {
            ran.add(50);
            return super.stands(x) - fills(2);
        }
    }

    static class Tea extends Wheel {
        Tea(int n, List<Integer> ran) {
            super(n, ran);
        }

        @Override public int tells(int x) {
            ran.add(60);
            return super.tells(x) ^ 5;
        }
    }

    static class Cancel extends Step {
        Cancel(int n, List<Integer> ran) {
            super(n, ran);
        }

        @Override public int fills(int x) {
            ran.add(70);
            return super.fills(x) * 2;
        }
    }

    static class Cent extends Lie {
        Cent(int n, List<Integer> ran) {
            super(n, ran);
        }

        @Override public int shows(int x) {
            ran.add(80);
            return super.shows(x) + stands(2);
        }

        @Override public int tells(int x) {
            ran.add(81);
            return super.tells(x) - 1;
        }
    }

    private static Step step(int kind, int n, List<Integer> ran) {
        return switch (kind) {
            case 0 -> new Step(n, ran);
            case 1 -> new File(n, ran);
            case 2 -> new Byte(n, ran);
            case 3 -> new Wheel(n, ran);
            case 4 -> new Lie(n, ran);
            case 5 -> new Tea(n, ran);
            case 6 -> new Cancel(n, ran);
            default -> new Cent(n, ran);
        };
    }

    int body(int kind) {
        if (kind < 0 || kind > 7) return -1;
        if (bodies.size() == 50) return -3;
        bodies.add(kind);
        return bodies.size() - 1;
    }

    int act(int body, int act, int x) {
        trace = new ArrayList<>();
        if (body < 0 || body >= bodies.size() || act < 0 || act > 3) return 0;
        Step step = step(bodies.get(body), body, trace);
        return act == 0 ? step.fills(x) : act == 1 ? step.shows(x) : act == 2 ? step.stands(x) : step.tells(x);
    }

    int trace(int i) {
        return i < 0 || i >= Math.min(24, trace.size()) ? -1 : trace.get(i);
    }

    int keep(int shelf, int body) {
        if (shelf < 0 || shelf > 5 || body < -1 || body >= bodies.size()) return -1;
        shelves[shelf] = body == -1 ? null : Integer.valueOf(body);
        return 1;
    }

    int row(int shelf, int sort, int n) {
        if (shelf < 0 || shelf > 5 || sort < 0 || sort > 4 || n > 60) return -1;
        if (n < 0) return -14;
        long[] row = new long[n + 1];
        row[0] = sort;
        shelves[shelf] = row;
        return 1;
    }

    private int place(int shelf, int i) {
        if (shelf < 0 || shelf > 5) return -1;
        if (shelves[shelf] == null) return -11;
        if (!(shelves[shelf] instanceof long[] row)) return -12;
        return i < 0 || i >= row.length - 1 ? -13 : 0;
    }

    int put(int shelf, int i, long v) {
        if (place(shelf, i) != 0) return place(shelf, i);
        long[] row = (long[]) shelves[shelf];
        row[i + 1] = row[0] == 0 ? (byte) v : row[0] == 1 ? (short) v : row[0] == 2 ? (int) v : row[0] == 3 ? v
            : v == 0 ? 0 : 1;
        return 1;
    }

    long element(int shelf, int i) {
        return place(shelf, i) != 0 ? Long.MIN_VALUE : ((long[]) shelves[shelf])[i + 1];
    }

    int shift(int shelf, int i, int other, int j, int n) {
        if (shelf < 0 || shelf > 5 || other < 0 || other > 5) return -1;
        if (shelves[shelf] == null || shelves[other] == null) return -11;
        if (!(shelves[shelf] instanceof long[] from) || !(shelves[other] instanceof long[] to)) return -12;
        if (from[0] != to[0]) return -12;
        if (i < 0 || j < 0 || n < 0 || (long) i + n > from.length - 1 || (long) j + n > to.length - 1) return -13;
        System.arraycopy(from.clone(), i + 1, to, j + 1, n);
        return n;
    }

    int taken(int shelf, int k) {
        if (shelf < 0 || shelf > 5 || k < 0 || k > 7) return -1;
        if (shelves[shelf] == null) return -11;
        if (!(shelves[shelf] instanceof Integer body)) return -12;
        Class<?> wanted = step(k, 0, null).getClass();
        return wanted.isInstance(step(bodies.get(body), 0, null)) ? bodies.get(body) : -12;
    }

    int count(int what) {
        return switch (what) {
            case 0 -> told.pieces.size();
            case 1 -> tape.length();
            case 2 -> done.size();
            case 3 -> bodies.size();
            case 4 -> trace.size();
            default -> -1;
        };
    }
}
