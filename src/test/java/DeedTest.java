/** Promises 29 to 36: waits in deed, the image, changes undone and done again. */
public final class DeedTest {
    private static final Checks c = new Checks();

    public static void main(String[] args) {
        begin();
        pass();
        theLastSecond();
        cancel();
        led();
        image();
        undo();
        fortyChanges();
        redo();
        c.finish();
    }

    private static void begin() {
        NinetyNine x = Checks.fifteen();
        c.due("begin()", x.begin(), 15);
        c.due("one is on", x.begin(), -5);
        c.due("begun", x.led(0), 1);
        c.due("its second", x.led(5), 0);
        x.cancel();
        x.mend(1, 2, 0);
        c.due("another", x.begin(), 12);
        c.due("begun, again", x.led(0), 2);
        NinetyNine empty = new NinetyNine();
        c.due("no pieces", empty.begin(), 0);
        c.due("it has not ended by itself", empty.led(1), 0);
        c.due("a second passes", empty.pass(1), 100);
        c.due("it has ended", empty.led(1), 1);
    }

    private static void pass() {
        NinetyNine x = Checks.fifteen();
        c.due("none is on", x.pass(1), -5);
        c.due("none is on, BAD too", x.pass(0), -1);
        x.begin();
        c.due("pass(0)", x.pass(0), -1);
        c.due("pass(-1)", x.pass(-1), -1);
        c.due("pass(100)", x.pass(100), -1);
        c.due("pass(MAX)", x.pass(Integer.MAX_VALUE), -1);
        c.due("nothing passed", x.led(5), 0);
        c.due("two seconds", x.pass(2), 33);
        c.due("five more", x.pass(5), 46);
        c.due("second 7", x.led(5), 7);
        c.due("one ahead of the end", x.pass(7), 93);
        c.due("still on", x.led(5), 14);
        c.due("the end", x.pass(1), 100);
        c.due("none is on behind it", x.led(5), -2);
        c.due("ended", x.led(1), 1);
        c.due("seconds", x.led(3), 15);
        c.due("none can pass", x.pass(1), -5);
        x.begin();
        c.due("from second 0", x.pass(1), 16);
        c.due("far beyond the end", x.pass(99), 100);
        c.due("ended again", x.led(1), 2);
        c.due("all seconds", x.led(3), 15 + 100);
        Checks.law(x, "100");
        x.mend(0, 4, 4);
        x.begin();
        c.due("100, but not LONG", x.pass(14), 100);
        c.due("it goes on", x.led(5), 14);
        Checks.law(x, "t<100?100;99");
        c.due("LONG, but not 100", x.pass(1), 99);
        c.due("it goes on, too", x.led(5), 15);
        x.mend(0, 4, 1);
        c.due("what is mended alone ends nothing", x.led(5), 15);
        c.due("the second behind", x.pass(1), 100);
        c.due("three have ended", x.led(1), 3);
    }

    private static void theLastSecond() {
        NinetyNine x = Checks.fifteen();
        x.mend(0, 4, 4);
        Checks.law(x, "99");
        x.begin();
        for (int i = 0; i < 10; i++) {
            c.due("99 for ever", x.pass(99), 99);
        }
        c.due("second 990", x.led(5), 990);
        c.due("seconds", x.led(3), 990);
        c.due("to the last second", x.pass(99), 99);
        c.due("999 is the last", x.led(5), 999);
        c.due("no more passed", x.led(3), 999);
        c.due("and on", x.pass(1), 99);
        c.due("999 still", x.led(5), 999);
        c.due("none passed", x.led(3), 999);
        c.due("all would be lost", x.cancel(), 30);
    }

    private static void cancel() {
        NinetyNine x = Checks.fifteen();
        c.due("none is on", x.cancel(), -5);
        x.begin();
        x.pass(7);
        c.due("lost", x.cancel(), 14);
        c.due("none is on any more", x.cancel(), -5);
        c.due("cancelled", x.led(2), 1);
        c.due("lost in all", x.led(4), 14);
        x.begin();
        c.due("nothing lost", x.cancel(), 0);
        x.begin();
        x.pass(1);
        c.due("lost this time", x.cancel(), 5);
        c.due("lost in all, of three", x.led(4), 19);
        c.due("three cancelled", x.led(2), 3);
        c.due("none ended", x.led(1), 0);
        c.due("seconds of all", x.led(3), 8);
        c.due("no second", x.led(5), -2);
    }

    private static void led() {
        NinetyNine x = Checks.fifteen();
        c.due("led(-1)", x.led(-1), -1);
        c.due("led(6)", x.led(6), -1);
        c.due("led(MIN)", x.led(Integer.MIN_VALUE), -1);
        x.begin();
        x.pass(3);
        c.due("seconds of a wait that is on", x.led(3), 3);
        c.due("nothing lost by it", x.led(4), 0);
        x.mend(0, 0, 90);
        c.due("its second does not hang on what is told", x.led(5), 3);
    }

    private static void image() {
        NinetyNine x = Checks.fifteen();
        c.due("there is none", x.back(), -5);
        x.begin();
        x.pass(7);
        c.due("image()", x.image(), 1);
        x.cancel();
        x.begin();
        x.pass(99);
        x.begin();
        c.due("begun since", x.led(0), 3);
        x.mend(1, 2, 0);
        c.due("back()", x.back(), 1);
        int[] due = {1, 0, 0, 7, 0, 7};
        for (int what = 0; what <= 5; what++) {
            c.due("laid back: " + what, x.led(what), due[what]);
        }
        c.due("what was told is not laid back", x.of(1, 2), 0);
        c.due("nor is it undone", x.count(2), 2);
        c.due("the wait goes on", x.pass(1), 73);
        c.due("its second", x.led(5), 8);
        c.due("laid back once more", x.back(), 1);
        c.due("its second then", x.led(5), 7);
        x.cancel();
        c.due("another image", x.image(), 1);
        x.begin();
        c.due("is laid back", x.back(), 1);
        c.due("with no wait on", x.led(5), -2);
        c.due("and one cancelled", x.led(2), 1);
        c.due("and what was lost", x.led(4), 20);
        NinetyNine empty = new NinetyNine();
        c.due("an image of nothing", empty.image(), 0);
        empty.begin();
        c.due("laid back: none begun", empty.back(), 0);
        c.due("laid back: none on", empty.led(5), -2);
        c.due("one may begin", empty.begin(), 0);
    }

    private static void undo() {
        NinetyNine x = new NinetyNine();
        x.piece(10, 5);
        c.due("none", x.undo(), -5);
        x.mend(0, 0, 20);
        x.mend(0, 0, 20);
        c.due("the same number is none", x.count(2), 1);
        x.mend(0, 1, 10);
        c.due("what is BAD is none", x.count(2), 1);
        x.mend(0, 1, 4);
        x.mend(0, 2, 3);
        x.mend(0, 3, 2);
        x.mend(0, 4, 0);
        x.mend(0, 5, 9);
        x.mend(0, 6, 1);
        x.mend(0, 0, 30);
        c.due("eight changes", x.count(2), 8);
        x.begin();
        x.pass(1);
        x.cancel();
        c.due("deeds are none", x.count(2), 8);
        int[] number = {20, 5, 0, 1, 1, 0, 0};
        c.due("undo: the latest", x.undo(), 7);
        c.due("as it was ahead of it", x.of(0, 0), 20);
        for (int what = 6; what >= 1; what--) {
            c.due("undo of " + what, x.undo(), what);
            c.due("undone: " + what, x.of(0, what), number[what]);
        }
        c.due("undo: the first", x.undo(), 0);
        c.due("bytes as at first", x.of(0, 0), 10);
        c.due("no more", x.undo(), -5);
        c.due("count(2)", x.count(2), 0);
        c.due("the piece stays", x.count(0), 1);
    }

    private static void fortyChanges() {
        NinetyNine x = new NinetyNine();
        x.piece(1, 1);
        for (int v = 2; v <= 46; v++) {
            x.mend(0, 0, v);
        }
        c.due("forty are kept", x.count(2), 40);
        for (int left = 39; left >= 0; left--) {
            c.due("undo to " + left, x.undo(), left);
            c.due("bytes then", x.of(0, 0), left + 6);
        }
        c.due("the oldest are gone", x.undo(), -5);
        c.due("the number stays", x.of(0, 0), 6);
        for (int left = 39; left >= 0; left--) {
            c.due("redo to " + left, x.redo(), left);
        }
        c.due("as told last", x.of(0, 0), 46);
        c.due("no more to do again", x.redo(), -5);
        c.due("forty again", x.count(2), 40);
        x.mend(0, 1, 9);
        c.due("forty still", x.count(2), 40);
        for (int i = 0; i < 40; i++) {
            x.undo();
        }
        c.due("one more is gone", x.of(0, 0), 7);
        c.due("the latest is undone", x.of(0, 1), 1);
        changesOfMany();
    }

    /** Of 48 changes of all numbers in turn the first eight are gone. */
    private static void changesOfMany() {
        NinetyNine x = new NinetyNine();
        for (int piece = 0; piece < 6; piece++) {
            x.piece(1, 1);
        }
        int[] number = new int[48];
        int[] what = new int[48];
        int[] was = new int[48];
        int[] is = new int[48];
        for (int i = 0; i < 48; i++) {
            what[i] = i % 7;
            number[i] = what[i] < 4 ? i % 6 : 0;
            was[i] = x.of(number[i], what[i]);
            is[i] = what[i] == 6 ? 1 - was[i] : what[i] == 4 ? (was[i] + 2) % 5 : was[i] + 1;
            c.due("change " + i, x.mend(number[i], what[i], is[i]), was[i]);
        }
        for (int i = 47; i >= 8; i--) {
            c.due("undo of change " + i, x.undo(), i - 8);
            c.due("undone: change " + i, x.of(number[i], what[i]), was[i]);
        }
        c.due("undo of change 7", x.undo(), -5);
        c.due("change 7 stands", x.of(number[7], what[7]), is[7]);
        for (int i = 8; i < 48; i++) {
            c.due("redo of change " + i, x.redo(), 47 - i);
            c.due("done again: change " + i, x.of(number[i], what[i]), is[i]);
        }
        c.due("redo of none", x.redo(), -5);
    }

    private static void redo() {
        NinetyNine x = new NinetyNine();
        x.piece(10, 5);
        c.due("none", x.redo(), -5);
        x.mend(0, 0, 20);
        x.mend(0, 1, 4);
        c.due("none undone", x.redo(), -5);
        x.undo();
        x.undo();
        c.due("redo: the first", x.redo(), 1);
        c.due("bytes again", x.of(0, 0), 20);
        c.due("speed not yet", x.of(0, 1), 5);
        c.due("count(2)", x.count(2), 1);
        c.due("redo: the second", x.redo(), 0);
        c.due("speed again", x.of(0, 1), 4);
        x.undo();
        x.mend(0, 0, 20);
        c.due("the same number is no other change", x.redo(), 0);
        x.undo();
        x.mend(0, 9, 20);
        x.begin();
        x.piece(5, 5);
        x.image();
        x.back();
        c.due("nor are deeds", x.redo(), 0);
        x.undo();
        x.mend(0, 2, 1);
        c.due("another came behind", x.redo(), -5);
        c.due("speed as it was", x.of(0, 1), 5);
        c.due("undo the other", x.undo(), 1);
        c.due("and the one ahead", x.undo(), 0);
        c.due("bytes as at first", x.of(0, 0), 10);
        c.due("redo of the other's line", x.redo(), 1);
        c.due("and of the other", x.redo(), 0);
        c.due("stuck", x.of(0, 2), 1);
    }
}
