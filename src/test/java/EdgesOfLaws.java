/** THE LAW in the terms' first part, and promises 6 and 7. */
final class EdgesOfLaws {
    private final Sentences s;

    private EdgesOfLaws(Sentences s) {
        this.s = s;
    }

    static void ask(Sentences s) {
        EdgesOfLaws edges = new EdgesOfLaws(s);
        edges.feed();
        edges.law();
        edges.lines();
        edges.joined();
        edges.operands();
        edges.names();
        edges.open();
        edges.ints();
        edges.whichLine();
        edges.faults();
        edges.centsAndNone();
    }

    /** What a law shows in second 0, in which b, f, s, t, l are 0 and n is 2. */
    private void shows(String text, int cent) {
        NinetyNine x = Checks.fifteen();
        x.mend(0, 4, 4);
        s.due("law " + text, Checks.law(x, text), 1);
        s.due(text, x.showing(0, 4), cent);
    }

    /** That an E is worth a value that may be below 0 or above 100; each digit of a value is asked for. */
    private void gives(String e, int value) {
        NinetyNine x = Checks.fifteen();
        x.mend(0, 4, 4);
        for (int off = -1; off <= 1; off++) {
            int asked = value + off;
            String text = "(" + e + ")=" + (asked < 0 ? "-" : "") + Math.abs(asked) + "&1";
            s.due("law " + text, Checks.law(x, text), 1);
            s.due(text, x.showing(0, 4), off == 0 ? 1 : 0);
        }
    }

    private void fault(String text, int place) {
        NinetyNine x = new NinetyNine();
        s.due("law of '" + text + "'", Checks.law(x, text), -100 - place);
    }

    private void feed() {
        s.says("`int feed(int letter)`: A byte (0 .. 255) comes to THE TAPE: how many it has. BAD, FULL (120).");
        NinetyNine x = new NinetyNine();
        int[] bad = {-1, 256, Integer.MIN_VALUE, Integer.MAX_VALUE, 1 << 16 | '1'};
        for (int letter : bad) {
            s.due("feed(" + letter + ")", x.feed(letter), -1);
        }
        s.due("none came", x.count(1), 0);
        s.due("feed(0)", x.feed(0), 1);
        s.due("feed(255)", x.feed(255), 2);
        for (int many = 3; many <= 120; many++) {
            s.due("one more", x.feed('1'), many);
        }
        s.due("FULL", x.feed('1'), -3);
        s.due("FULL, by byte 0", x.feed(0), -3);
        for (int letter : bad) {
            s.due("BAD ahead of FULL: feed(" + letter + ")", x.feed(letter), -1);
        }
        s.due("120 still", x.count(1), 120);
    }

    private void law() {
        s.says("`int law()`: THE TAPE becomes THE LAW: 1; -100 less its FAULT; THE TAPE is empty then.");
        NinetyNine x = Checks.fifteen();
        x.mend(0, 4, 4);
        s.due("a text", Checks.law(x, "42"), 1);
        s.due("is THE LAW", x.showing(0, 4), 42);
        s.due("THE TAPE is empty", x.count(1), 0);
        s.due("an empty TAPE", x.law(), -100);
        s.due("THE LAW stands", x.showing(0, 4), 42);
        s.due("FAULT 1", Checks.law(x, "4x"), -101);
        s.due("THE TAPE is empty then, too", x.count(1), 0);
        s.due("THE LAW stands still", x.showing(0, 4), 42);
        s.due("nothing was left on it", Checks.law(x, "43"), 1);
        s.due("another LAW", x.showing(0, 4), 43);
        s.says("THE LAW is a TEXT by THE TAPE (at most 120 bytes):");
        String most = "10" + "+1".repeat(59);
        s.due("bytes", most.length(), 120);
        shows(most, 69);
        for (int i = 0; i < 120; i++) {
            x.feed(most.charAt(i));
        }
        s.due("one more", x.feed('+'), -3);
        s.due("is not on it", x.law(), 1);
        s.due("all 120 are", x.showing(0, 4), 69);
        s.due("120 may come again", x.feed('1'), 1);
        // Each of these bytes is worked out by itself; none is part of a number, or a bracket.
        shows("!b" + "+b".repeat(59), 1);
    }

    private void lines() {
        s.says("LINES, one or more, parted by ; .");
        fault("", 0);
        shows("7", 7);
        shows("7;8", 7);
        shows("0?7;8", 8);
        shows("7" + ";8".repeat(59), 7);
        shows("0?1;".repeat(29) + "7", 7);
        fault(";", 0);
        fault(";7", 0);
        fault("7;", 2);
        fault("7;;8", 2);
        fault("7,8", 1);
        s.says("LINE: E, or E ? E (what counts if the first is not 0).");
        shows("1?5;6", 5);
        shows("-1?5;6", 5);
        shows("2?5;6", 5);
        shows("9999?5;6", 5);
        shows("0?5;6", 6);
        shows("1-1?5;6", 6);
        shows("0|1?0|7;6", 1);
        shows("1?0|0;6", 0);
        shows("1?((((((5))))))", 5);
        shows("((((((1))))))?((((((5))))))", 5);
        fault("1?(((((((5", 8);
        fault("(((((((1", 6);
        fault("1?5?6", 3);
        fault("?5", 0);
        fault("1?", 2);
        fault("1?;5", 2);
        fault("(1?5)", 2);
    }

    private void joined() {
        s.says("E = A { | A }.");
        gives("7", 7);
        gives("7|0", 1);
        gives("0|0", 0);
        gives("0|0|0|7", 1);
        gives("0|0|0|0", 0);
        gives("1|1&0", 1);
        fault("|7", 0);
        fault("7|", 2);
        fault("7||7", 2);
        s.says("A = B { & B }.");
        gives("7&9", 1);
        gives("7&0", 0);
        gives("7&7&7&7", 1);
        gives("7&7&7&0", 0);
        gives("2&3<9", 1);
        gives("1&0=0", 1);
        fault("&7", 0);
        fault("7&", 2);
        fault("7&&7", 2);
        s.says("B = S, or S < S, S = S, S > S.");
        gives("1<2", 1);
        gives("2<2", 0);
        gives("3<2", 0);
        gives("1=2", 0);
        gives("2=2", 1);
        gives("3=2", 0);
        gives("1>2", 0);
        gives("2>2", 0);
        gives("3>2", 1);
        gives("1+1<1+2", 1);
        gives("(1<2)<3", 1);
        for (String first : new String[] {"<", "=", ">"}) {
            for (String second : new String[] {"<", "=", ">"}) {
                fault("1" + first + "2" + second + "3", 3);
                fault("1" + first + second, 2);
                gives("1" + first + "2&1" + second + "2", first.equals("<") && second.equals("<") ? 1 : 0);
            }
        }
        s.says("S = P { + P, - P }.");
        gives("9-3-2", 4);
        gives("9-3+2", 8);
        gives("9+3-2", 10);
        gives("2+3*4", 14);
        gives("2*3+4", 10);
        gives("9-2*3-1", 2);
        gives("1-2", -1);
        fault("+7", 0);
        fault("7+", 2);
        fault("7-", 2);
        fault("7++7", 2);
        s.says("P = O { * O, / O, % O }.");
        gives("90*3/4", 67);
        gives("90/4*3", 66);
        gives("100/7/2", 7);
        gives("100/7%4", 2);
        gives("17%5*2", 4);
        gives("2*17%5", 4);
        gives("2*-3", -6);
        gives("2*!0", 2);
        for (String sign : new String[] {"*", "/", "%"}) {
            fault(sign + "7", 0);
            fault("7" + sign, 2);
            fault("7" + sign + sign + "7", 2);
        }
    }

    private void operands() {
        s.says("O = a number (1 to 4 digits), a NAME, ! O, - O, ( E ).");
        for (int number : new int[] {0, 1, 9, 10, 99, 100, 999, 1000, 9998}) {
            gives(Integer.toString(number), number);
        }
        shows("9999=9998+1", 1);
        gives("0000", 0);
        gives("0010", 10);
        gives("0001", 1);
        fault("00000", 4);
        fault("12345", 4);
        fault("1+12345", 6);
        fault("(12345)", 5);
        gives("n", 2);
        fault("nn", 1);
        fault("n1", 1);
        fault("1n", 1);
        gives("!0", 1);
        gives("!7", 0);
        gives("!-7", 0);
        gives("!n=0", 1);
        gives("!!7", 1);
        fault("!", 1);
        fault("7!", 1);
        fault("!*", 1);
        gives("-7", -7);
        gives("--7", 7);
        gives("-!0", -1);
        gives("9--7", 16);
        gives("9-(-7)", 16);
        gives("-2*3", -6);
        gives("-9+2", -7);
        fault("-", 1);
        fault("-+7", 1);
        gives("(7)", 7);
        gives("(1+2)*3", 9);
        gives("9-(3-2)", 8);
        gives("(0|7)+(1&1)", 2);
        fault("(", 1);
        fault("()", 1);
        fault("(7", 2);
        fault(")", 0);
        fault("7)", 1);
        fault("(7))", 3);
        fault("(7;8)", 2);
        fault("7(", 1);
        fault("(7)(8)", 3);
        fault("(7)8", 3);
        s.says("No blanks.");
        for (String blank : new String[] {" ", "\t", "\n", "\r", "\0", "\u00a0"}) {
            fault(blank + "7", 0);
            fault("7" + blank, 1);
            fault("7" + blank + "+1", 1);
            fault("7+" + blank + "1", 2);
            fault("7;" + blank + "1", 2);
            fault("(" + blank + "7)", 1);
            fault("1" + blank + "0", 1);
        }
    }

    private void names() {
        s.says("NAMES: b, f, s, t per cent of BYTES, FILES, STEPS, TIME; l what was SHOWN the second ahead (0 in second 0); "
            + "n how many PIECES.");
        for (int letter = 0; letter <= 255; letter++) {
            NinetyNine x = new NinetyNine();
            x.feed(letter);
            boolean ends = letter >= '0' && letter <= '9' || "bfstln".indexOf(letter) >= 0;
            boolean goesOn = letter == '(' || letter == '!' || letter == '-';
            s.due("the byte " + letter + " alone", x.law(), ends ? 1 : goesOn ? -101 : -100);
        }
        NinetyNine x = Checks.fifteen();
        x.mend(1, 3, 3);
        x.mend(0, 4, 4);
        String[] names = {"b", "f", "s", "t", "n"};
        int[] due = {33, 25, 50, 13, 2};
        int[] behind = {100, 100, 100, 100, 2};
        for (int i = 0; i < names.length; i++) {
            Checks.law(x, names[i]);
            s.due(names[i] + " in second 2", x.showing(2, 4), due[i]);
            s.due(names[i] + " in second 999", x.showing(999, 4), behind[i]);
        }
        Checks.law(x, "l+7");
        for (int t = 0; t <= 13; t++) {
            s.due("l in second " + t, x.showing(t, 4), 7 * (t + 1));
        }
        s.due("l in second 14, held within 100", x.showing(14, 4), 100);
        Checks.law(x, "l=100?1;l+60");
        int[] held = {60, 100, 1, 61, 100, 1};
        for (int t = 0; t < held.length; t++) {
            s.due("l is what was SHOWN, held, in second " + t, x.showing(t, 4), held[t]);
        }
        Checks.law(x, "t=13?5;9+l");
        int[] shown = {9, 18, 18, 27};
        x.mend(0, 6, 1);
        for (int t = 0; t < shown.length; t++) {
            s.due("l is what was SHOWN, never less, in second " + t, x.showing(t, 4), shown[t]);
        }
        NinetyNine pieces = new NinetyNine();
        Checks.law(pieces, "n");
        pieces.mend(0, 4, 4);
        for (int many = 1; many <= 6; many++) {
            pieces.piece(1, 1);
            s.due("n of " + many, pieces.showing(0, 4), many);
        }
    }

    private void open() {
        s.says("At most 6 of ( ! - ahead of an O are open at once.");
        for (String sign : new String[] {"!", "-"}) {
            shows(sign.repeat(6) + "7", sign.equals("!") ? 1 : 7);
            fault(sign.repeat(7) + "7", 6);
            fault("(" + sign.repeat(6), 6);
            fault(sign.repeat(6) + "(", 6);
        }
        shows("((((((7))))))", 7);
        fault("(((((((7)))))))", 6);
        shows("(!(-(!7)))+3", 4);
        shows("!(-(!(7)))+3", 4);
        fault("!(-(!(-(7)))", 6);
        shows("!7+!7+!7+!7+!7+!7+!7", 0);
        shows("0-7+-7+-7+-7+-7+-7+-7+99", 50);
        shows("(7)+(7)+(7)+(7)+(7)+(7)+(7)", 49);
        shows("!(((((0)))))+!(((((0)))))", 2);
        fault("!(((((1)))))+-(((((-1", 19);
        shows("(((((1+(1))))))+(1)", 3);
        shows("((((((9-1-1))))))", 7);
        fault("((((((9-(1", 8);
        fault("((((((9--1", 8);
        fault("((((((9-!1", 8);
        fault("0?1;((((((9+(", 12);
        shows("0?((((((1))))));((((((7))))))", 7);
    }

    private void ints() {
        s.says("Ints that wrap; / and % toward 0, by 0 they give 0; | & < = > ! give 1, 0; all is worked out.");
        String least = "2048*1024*1024";
        gives(least + "<0", 1);
        gives(least + "-1>0", 1);
        gives(least + "-1+1<0", 1);
        gives("-(" + least + ")<0", 1);
        gives("-(" + least + ")=" + least, 1);
        gives(least + "/-1=" + least, 1);
        gives(least + "%-1", 0);
        gives("2048*1024*2048", 0);
        gives("9999*9999*99<0", 0);
        gives("9999*9999*43%1000", (9999 * 9999 * 43) % 1000);
        int[] lefts = {7, -7, 1, 0};
        int[] rights = {2, -2, 9, -9};
        for (int left : lefts) {
            for (int right : rights) {
                gives(left + "/" + right, left / right);
                gives(left + "%" + right, left % right);
            }
            gives(left + "/0", 0);
            gives(left + "%0", 0);
            gives("5+" + left + "/(1-1)*3", 5);
            gives("5+" + left + "%(1-1)*3", 5);
        }
        int[] values = {-2, 0, 3};
        for (int a : values) {
            gives("!" + a, a == 0 ? 1 : 0);
            for (int b : values) {
                gives(a + "|" + b, a != 0 || b != 0 ? 1 : 0);
                gives(a + "&" + b, a != 0 && b != 0 ? 1 : 0);
                gives(a + "<" + b, a < b ? 1 : 0);
                gives(a + "=" + b, a == b ? 1 : 0);
                gives(a + ">" + b, a > b ? 1 : 0);
            }
        }
        gives("1|1/0", 1);
        gives("0&1%0", 0);
        gives(least + "-1<" + least, 0);
        gives(least + "-1>" + least, 1);
    }

    private void whichLine() {
        s.says("The first LINE without a first E, or whose first E is not 0, counts; none: 0.");
        shows("7;8;9", 7);
        shows("0;8;9", 0);
        shows("0?7;8;9", 8);
        shows("0?7;0?8;9", 9);
        shows("0?7;1?8;9", 8);
        shows("0?7;-1?8;9", 8);
        shows("1?0;8", 0);
        shows("0?7", 0);
        shows("0?7;0?8;0?9", 0);
        NinetyNine x = Checks.fifteen();
        x.mend(0, 4, 4);
        Checks.law(x, "t<20?7;t>90?8;b=40?9;l+1");
        int[] due = {7, 7, 7, 8, 9, 10, 9, 10, 11, 12, 13, 14, 15, 16, 8, 8};
        for (int t = 0; t < due.length; t++) {
            s.due("in second " + t, x.showing(t, 4), due[t]);
        }
    }

    private void faults() {
        s.says("FAULT: the place (from 0) of the first byte with which no TEXT goes on; the length, if it ends too early.");
        fault("x", 0);
        fault("1x", 1);
        fault("1xx", 1);
        fault("x1+", 0);
        fault("1+", 2);
        fault("1+(2*(3-", 8);
        fault("1;2?3;4%", 8);
        fault("\u00ff", 0);
        fault("1\0", 1);
        String most = "1+".repeat(59) + "1";
        fault(most + "+", 120);
        fault(most + "x", 119);
        fault("x" + most, 0);
        fault("1+".repeat(60), 120);
        fault("12345" + "+1".repeat(57), 4);
        NinetyNine x = new NinetyNine();
        s.due("an empty TAPE", x.law(), -100);
        s.due("and again", x.law(), -100);
    }

    private void centsAndNone() {
        s.says("It gives per cent (held within 0 .. 100).");
        shows("-1", 0);
        shows("0", 0);
        shows("1", 1);
        shows("99", 99);
        shows("100", 100);
        shows("101", 100);
        shows("9999", 100);
        shows("-9999", 0);
        shows("2048*1024*1024", 0);
        shows("2048*1024*1024-1", 100);
        s.says("Without a text: b.");
        NinetyNine x = Checks.fifteen();
        x.mend(0, 4, 4);
        for (int t : new int[] {0, 1, 2, 7, 14, 15, 16, 999}) {
            s.due("in second " + t, x.showing(t, 4), x.showing(t, 1));
        }
        Checks.law(x, "1+");
        s.due("a FAULT is no text", x.showing(7, 4), 46);
        x.mend(0, 5, 9);
        s.due("smooth", x.showing(2, 4), 18);
        NinetyNine empty = new NinetyNine();
        empty.mend(0, 4, 4);
        s.due("no PIECES", empty.showing(0, 4), 100);
    }
}
