import java.util.ArrayList;
import java.util.HashMap;
import java.util.HashSet;
import java.util.List;
import java.util.Map;
import java.util.Random;
import java.util.Set;

/**
 * Promises 6 and 7: FAULT by the grammar as the document writes it, read by a table of all that may stand open at each
 * place: all texts of few bytes, all of four operands, and drawn ones. What they are worth is compared with the Oracle.
 */
public final class GrammarTest {
    private static final int OPEN = 6;

    /** A production, so much of which has been read since a place. */
    private record Item(String left, List<String> right, int read, int since) {
        String next() {
            return read < right.size() ? right.get(read) : null;
        }
    }

    private static final Map<String, List<List<String>>> GRAMMAR = grammar();
    private static final Checks c = new Checks();

    public static void main(String[] args) {
        fewBytes("", 5);
        fourOperands();
        openAtOnce();
        drawn();
        c.finish();
    }

    /** A name is a non-terminal if the grammar has it, else a byte; what is open is told by the number behind it. */
    private static Map<String, List<List<String>>> grammar() {
        Map<String, List<List<String>>> all = new HashMap<>();
        rule(all, "TEXT", "LINE", "LINE ; TEXT");
        rule(all, "LINE", "E0", "E0 ? E0");
        rule(all, "NUMBER", "D", "D D", "D D D", "D D D D");
        rule(all, "D", "0", "1", "2", "3", "4", "5", "6", "7", "8", "9");
        rule(all, "NAME", "b", "f", "s", "t", "l", "n");
        for (int n = 0; n <= OPEN; n++) {
            String[] named = {"A" + n, "B" + n, "S" + n, "P" + n, "O" + n};
            rule(all, "E" + n, named[0], named[0] + " | E" + n);
            rule(all, named[0], named[1], named[1] + " & " + named[0]);
            String s = named[2];
            rule(all, named[1], s, s + " < " + s, s + " = " + s, s + " > " + s);
            String p = named[3];
            rule(all, s, p, p + " + " + s, p + " - " + s);
            String o = named[4];
            rule(all, p, o, o + " * " + p, o + " / " + p, o + " % " + p);
            rule(all, o, "NUMBER", "NAME");
            if (n < OPEN) {
                rule(all, o, "! O" + (n + 1), "- O" + (n + 1), "( E" + (n + 1) + " )");
            }
        }
        return all;
    }

    private static void rule(Map<String, List<List<String>>> all, String left, String... rights) {
        for (String right : rights) {
            all.computeIfAbsent(left, l -> new ArrayList<>()).add(List.of(right.split(" ")));
        }
    }

    /** The place of the first byte with which no TEXT goes on; the length, if it ends too early; -1: it is one. */
    private static int fault(String text) {
        List<List<Item>> table = new ArrayList<>();
        List<Item> open = new ArrayList<>();
        for (List<String> right : GRAMMAR.get("TEXT")) {
            open.add(new Item("TEXT", right, 0, 0));
        }
        for (int place = 0; ; place++) {
            close(table, open, place);
            table.add(open);
            if (place == text.length()) {
                boolean whole = open.stream().anyMatch(i -> i.left.equals("TEXT") && i.since == 0 && i.next() == null);
                return whole ? -1 : place;
            }
            String letter = text.substring(place, place + 1);
            List<Item> behind = new ArrayList<>();
            for (Item item : open) {
                if (letter.equals(item.next())) {
                    behind.add(new Item(item.left, item.right, item.read + 1, item.since));
                }
            }
            if (behind.isEmpty()) {
                return place;
            }
            open = behind;
        }
    }

    /** Adds what may begin at a place, and what goes on there because a part of it is whole. */
    private static void close(List<List<Item>> table, List<Item> open, int place) {
        Set<Item> seen = new HashSet<>(open);
        for (int i = 0; i < open.size(); i++) {
            Item item = open.get(i);
            List<Item> more = new ArrayList<>();
            if (item.next() == null) {
                // Nothing of the grammar is empty: what is whole began ahead of here.
                for (Item waits : table.get(item.since)) {
                    if (item.left.equals(waits.next())) {
                        more.add(new Item(waits.left, waits.right, waits.read + 1, waits.since));
                    }
                }
            } else {
                for (List<String> right : GRAMMAR.getOrDefault(item.next(), List.of())) {
                    more.add(new Item(item.next(), right, 0, place));
                }
            }
            for (Item one : more) {
                if (seen.add(one)) {
                    open.add(one);
                }
            }
        }
    }

    private static void ask(String text) {
        NinetyNine x = Checks.fifteen();
        int fault = fault(text);
        int got = Checks.law(x, text);
        c.due("law() of " + text, got, fault < 0 ? 1 : -100 - fault);
        if (fault < 0 && got == 1) {
            x.mend(0, 4, 4);
            Oracle due = new Oracle();
            due.piece(10, 5);
            due.piece(20, 2);
            due.mend(1, 2, 3);
            text.chars().forEach(due::feed);
            due.law();
            due.mend(0, 4, 4);
            for (int t = 0; t <= 15; t += 3) {
                c.due("second " + t + " by " + text, x.showing(t, 4), due.showing(t, 4));
            }
        }
    }

    /** All texts of up to so many bytes out of some, each begun by a text with which one goes on. */
    private static void fewBytes(String ahead, int most) {
        ask(ahead);
        if (ahead.length() == most || fault(ahead) >= 0 && fault(ahead) < ahead.length()) {
            return;
        }
        for (char letter : "7t!-(<&+*?;)".toCharArray()) {
            fewBytes(ahead + letter, most);
        }
    }

    /** Each two joined by each sign, some of them with a sign ahead, some within ( ). */
    private static void fourOperands() {
        String signs = "|&<=>+-*/%";
        String[][] forms = {
            {"", "", "", ""}, {"-", "", "", ""}, {"", "!", "", ""}, {"", "", "-", "!"}, {"(", "", ")", ""},
            {"", "(", "", ")"}, {"!(", ")", "-(", ")"}, {"", "-(", ")", ""},
        };
        for (int drawn = 0; drawn < 1000; drawn++) {
            char a = signs.charAt(drawn / 100);
            char b = signs.charAt(drawn / 10 % 10);
            char d = signs.charAt(drawn % 10);
            for (String[] form : forms) {
                ask(part(form[0], "50") + a + part(form[1], "t") + b + part(form[2], "7") + d + part(form[3], "b"));
            }
        }
    }

    private static String part(String sign, String operand) {
        return sign.equals(")") ? operand + ")" : sign + operand;
    }

    /** Up to eight of ( ! - open, with what may stand behind them. */
    private static void openAtOnce() {
        Random random = new Random(99);
        for (int i = 0; i < 6000; i++) {
            StringBuilder text = new StringBuilder();
            int parts = 0;
            for (int n = 5 + random.nextInt(4); n > 0; n--) {
                char sign = "(!-".charAt(random.nextInt(3));
                text.append(sign);
                parts += sign == '(' ? 1 : 0;
                if (random.nextInt(5) == 0) {
                    text.append(random.nextBoolean() ? "3*" : "b<");
                }
            }
            text.append('t');
            for (; parts > 0; parts--) {
                text.append(random.nextInt(12) == 0 ? "" : ")").append(random.nextInt(6) == 0 ? "+!4" : "");
            }
            ask(text.toString());
        }
    }

    private static void drawn() {
        Random random = new Random(7);
        String[] some = {"b", "t", "9", "12", "10000", "l", "(", ")", "!", "-", "+", "*", "<", "=", "&", "|", "?", ";", "%"};
        for (int i = 0; i < 4000; i++) {
            StringBuilder text = new StringBuilder("t");
            for (int n = random.nextInt(12); n > 0; n--) {
                text.append(some[6 + random.nextInt(some.length - 6)]).append(some[random.nextInt(7)]);
            }
            ask(text.toString());
        }
    }
}
