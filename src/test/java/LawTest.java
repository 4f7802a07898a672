/** Promises 6 and 7: the tape and the law. */
public final class LawTest {
    private static final Checks c = new Checks();

    public static void main(String[] args) {
        feed();
        values();
        names();
        lines();
        faults();
        openAtOnce();
        longTexts();
        theLawStands();
        c.finish();
    }

    private static void feed() {
        NinetyNine x = new NinetyNine();
        c.due("feed(-1)", x.feed(-1), -1);
        c.due("feed(256)", x.feed(256), -1);
        c.due("feed(0)", x.feed(0), 1);
        c.due("feed(255)", x.feed(255), 2);
        c.due("count(1)", x.count(1), 2);
        for (int i = 3; i <= 120; i++) {
            c.due("feed, number " + i, x.feed('1'), i);
        }
        c.due("feed, number 121", x.feed('1'), -3);
        c.due("feed(256) when full", x.feed(256), -1);
        c.due("count(1) when full", x.count(1), 120);
        c.due("law() of byte 0", x.law(), -100);
        c.due("count(1) behind law()", x.count(1), 0);
        c.due("feed behind law()", x.feed('1'), 1);
    }

    /** What a law shows in second 0 of a bar on which nothing else hangs. */
    private static void shows(String text, int cent) {
        NinetyNine x = Checks.fifteen();
        x.mend(0, 4, 4);
        c.due("law " + text, Checks.law(x, text), 1);
        c.due(text, x.showing(0, 4), cent);
    }

    private static void values() {
        shows("7", 7);
        shows("0007", 7);
        shows("100", 100);
        shows("101", 100);
        shows("9999", 100);
        shows("-1", 0);
        shows("1+2*3", 7);
        shows("(1+2)*3", 9);
        shows("10-2-3", 5);
        shows("10-(2-3)", 11);
        shows("100/7/2", 7);
        shows("90*3/4", 67);
        shows("90/4*3", 66);
        shows("17%5", 2);
        shows("2*17%5", 4);
        shows("7/0", 0);
        shows("7%0", 0);
        shows("5+7/0", 5);
        shows("-7/2+10", 7);
        shows("-7%2+10", 9);
        shows("--5", 5);
        shows("8--5", 13);
        shows("-5+8", 3);
        shows("!0*40", 40);
        shows("!5+3", 3);
        shows("!!5+3", 4);
        shows("!-1+2", 2);
        shows("1<2", 1);
        shows("2<2", 0);
        shows("2=2", 1);
        shows("2=3", 0);
        shows("3>2", 1);
        shows("2>2", 0);
        shows("-1<0", 1);
        shows("2+1<4", 1);
        shows("9-(4<2+3)", 8);
        shows("0|0", 0);
        shows("5|0", 1);
        shows("0|5", 1);
        shows("5|7", 1);
        shows("3&2", 1);
        shows("3&0", 0);
        shows("0&3", 0);
        shows("1|0&0", 1);
        shows("(1|0)&0", 0);
        shows("1&0<1", 1);
        shows("0=1|1", 1);
        shows("0|1=0", 0);
        shows("0&1=0", 0);
        shows("1|1|0", 1);
        shows("1&1&0", 0);
        shows("1<2|3<2", 1);
        shows("9999*9999*9999<0", 1);
        shows("2048*1024*1024<0", 1);
        shows("2048*1024*1024/-1<0", 1);
        shows("2048*1024*1024%-1+5", 5);
        shows("-(2048*1024*1024)<0", 1);
        shows("2048*1024*1024-1>0", 1);
    }

    private static void names() {
        NinetyNine x = Checks.fifteen();
        x.mend(1, 3, 3);
        x.mend(0, 4, 4);
        String[] texts = {"b", "f", "s", "t", "n"};
        int[] due = {46, 25, 50, 53, 2};
        int[] seconds = {7, 7, 7, 8, 7};
        for (int i = 0; i < texts.length; i++) {
            Checks.law(x, texts[i]);
            c.due("law " + texts[i], x.showing(seconds[i], 4), due[i]);
        }
        Checks.law(x, "l+2");
        c.due("l in second 0", x.showing(0, 4), 2);
        c.due("l in second 1", x.showing(1, 4), 4);
        c.due("l in second 20", x.showing(20, 4), 42);
        c.due("l in second 999", x.showing(999, 4), 100);
        x.mend(0, 5, 1);
        c.due("l is what was shown, not what the law gave", x.showing(20, 4), 21);
        x.mend(0, 5, 0);
        Checks.law(x, "l=100?0;l+50");
        c.due("l, round and round", x.showing(3, 4), 50);
        c.due("l, round and round, behind", x.showing(5, 4), 0);
        NinetyNine empty = new NinetyNine();
        empty.mend(0, 4, 4);
        c.due("no pieces: without a text", empty.showing(3, 4), 100);
        Checks.law(empty, "n");
        c.due("no pieces: n", empty.showing(3, 4), 0);
        Checks.law(empty, "b+f+s+t=400");
        c.due("no pieces: all of nothing", empty.showing(3, 4), 1);
    }

    private static void lines() {
        shows("0?5;6", 6);
        shows("1?5;6", 5);
        shows("-1?5;6", 5);
        shows("0?5", 0);
        shows("1?5", 5);
        shows("0?1;0?2", 0);
        shows("0?1;3?2;4", 2);
        shows("0?1;3;4", 3);
        shows("8;9", 8);
        shows("0;9", 0);
        shows("0|1?0;9", 0);
        shows("1=1?2+3;4", 5);
        shows("(0)?1;(2)?(3);(4)", 3);
        shows("0?(1<2)*9;0?!0;0?-1;7", 7);
    }

    private static void faults() {
        NinetyNine x = Checks.fifteen();
        fault(x, "", 0);
        fault(x, "1+", 2);
        fault(x, "a", 0);
        fault(x, "B", 0);
        fault(x, "1 +2", 1);
        fault(x, " 1", 0);
        fault(x, "12345", 4);
        fault(x, "(12345)", 5);
        fault(x, "00000", 4);
        fault(x, "1<2<3", 3);
        fault(x, "1<2=3", 3);
        fault(x, "1>2+3>4", 5);
        fault(x, "(1<2<3)", 4);
        fault(x, "1?2?3", 3);
        fault(x, "1?", 2);
        fault(x, "?1", 0);
        fault(x, "1?;2", 2);
        fault(x, "(1?2)", 2);
        fault(x, "(1;2)", 2);
        fault(x, "(1", 2);
        fault(x, "(", 1);
        fault(x, "()", 1);
        fault(x, "1)", 1);
        fault(x, "(1))", 3);
        fault(x, ")", 0);
        fault(x, ";", 0);
        fault(x, "1;", 2);
        fault(x, "1;;2", 2);
        fault(x, "1;?", 2);
        fault(x, "!", 1);
        fault(x, "1!", 1);
        fault(x, "1!0", 1);
        fault(x, "-", 1);
        fault(x, "+1", 0);
        fault(x, "*1", 0);
        fault(x, "1|", 2);
        fault(x, "1||2", 2);
        fault(x, "1&&2", 2);
        fault(x, "1+*2", 2);
        fault(x, "bb", 1);
        fault(x, "b1", 1);
        fault(x, "1b", 1);
        fault(x, "5(", 1);
        fault(x, "1/", 2);
        fault(x, "1%%2", 2);
        fault(x, "1==2", 2);
        fault(x, "1<=2", 2);
        fault(x, "1?2;3x", 5);
        fault(x, "1:2", 1);
        fault(x, "n^2", 1);
        fault(x, "l,", 1);
    }

    private static void fault(NinetyNine x, String text, int place) {
        c.due("fault of " + text, Checks.law(x, text), -100 - place);
        c.due("the tape behind " + text, x.count(1), 0);
    }

    private static void openAtOnce() {
        NinetyNine x = Checks.fifteen();
        shows("((((((7))))))", 7);
        shows("!!!!!!7", 1);
        shows("------7", 7);
        shows("-(-(-7)-9)+3", 5);
        shows("!(!(!(2-1)))+6", 6);
        shows("(1)+(1)+(1)+(1)+(1)+(1)+(1)+(1)", 8);
        shows("!1+!1+!1+!1+!1+!1+!1+!1", 0);
        shows("((((((1)+(1))))))+(1)", 3);
        shows("9-1-1-1-1-1-1-1-1", 1);
        fault(x, "(((((((7", 6);
        fault(x, "!!!!!!!7", 6);
        fault(x, "-------7", 6);
        fault(x, "-(-(-(-7)))", 6);
        fault(x, "!!!!!!(7)", 6);
        fault(x, "((((((1-1-(1))))))", 10);
        fault(x, "((((((1+-1", 8);
        fault(x, "((((((1--1", 8);
        fault(x, "((((((!1", 6);
        fault(x, "1;2?3;(((((((7", 12);
    }

    private static void longTexts() {
        StringBuilder ones = new StringBuilder("1");
        for (int i = 0; i < 59; i++) {
            ones.append("+1");
        }
        shows(ones.toString(), 60);
        NinetyNine x = Checks.fifteen();
        x.mend(0, 4, 4);
        c.due("120 bytes that end too early", Checks.law(x, ones + "+"), -220);
        c.due("120 bytes, all read", Checks.law(x, ones + "b"), -100 - 119);
        c.due("119 bytes that begin with a sign", Checks.law(x, ones.substring(1) + "9"), -100);
        StringBuilder lines = new StringBuilder("0");
        for (int i = 0; i < 29; i++) {
            lines.append("?0;0");
        }
        c.due("thirty lines", Checks.law(x, lines + "+17"), 1);
        c.due("thirty lines show", x.showing(0, 4), 17);
        String waits = "0|1&1<1+1*(".repeat(6);
        c.due("seven open at once", Checks.law(x, waits + "0|1&1<1+1*(5)))))))"), -100 - 76);
        c.due("many signs that wait", Checks.law(x, waits + "0|1&1<1+1*5))))))"), 1);
        c.due("many signs that wait show", x.showing(0, 4), 1);
    }

    private static void theLawStands() {
        NinetyNine x = Checks.fifteen();
        x.mend(0, 4, 4);
        c.due("without a text: b", x.showing(7, 4), 46);
        c.due("a law", Checks.law(x, "42"), 1);
        c.due("is shown", x.showing(7, 4), 42);
        c.due("a fault", Checks.law(x, "43+"), -103);
        c.due("leaves it", x.showing(7, 4), 42);
        c.due("nothing on the tape", x.law(), -100);
        c.due("leaves it, too", x.showing(7, 4), 42);
        c.due("half a law", Checks.law(x, "0?1;l="), -106);
        c.due("leaves all of it", x.showing(7, 4), 42);
        c.due("another law", Checks.law(x, "44"), 1);
        c.due("is shown instead", x.showing(7, 4), 44);
        c.due("a law is no change", x.count(2), 2);
        x.feed('5');
        c.due("what is on the tape is no law yet", x.showing(7, 4), 44);
    }
}
