/** Promises 1 to 6: a new object, feed, length, clear, confirm, digest. */
public final class ScriptsTest {
    private static final Check check = new Check();
    private static final int[] WRONG_SCRIPTS = {-1, 2, 3, 256, Integer.MIN_VALUE, Integer.MAX_VALUE};

    public static void main(String[] args) {
        newObject();
        feedAndLength();
        clear();
        wrongScripts();
        confirm();
        digest();
        check.finish();
    }

    private static void newObject() {
        SpendScript x = new SpendScript();
        check.due("length(0)", x.length(0), 0);
        check.due("length(1)", x.length(1), 0);
        check.due("new", Check.outcome(x), "-1 at -1 in -1 done 0: []");
        check.due("itemLength(0)", x.itemLength(0), -1);
        check.due("itemByte(0, 0)", x.itemByte(0, 0), -1);
    }

    private static void feedAndLength() {
        for (int which = 0; which < 2; which++) {
            SpendScript x = new SpendScript();
            for (int i = 0; i < 120; i++) {
                check.due("length", x.length(which), i);
                check.due("feed", x.feed(which, i), true);
            }
            check.due("feed to a full script", x.feed(which, 1), false);
            check.due("length of a full script", x.length(which), 120);
            check.due("length of the other", x.length(1 - which), 0);
            check.due("feed to the other", x.feed(1 - which, 7), true);
            check.due("length of the other", x.length(1 - which), 1);
        }
        onlyTheLowEightBits();
    }

    private static void onlyTheLowEightBits() {
        int[] fed = {0, 255, 256, -1, -256, 511, Integer.MIN_VALUE, Integer.MAX_VALUE};
        for (int b : fed) {
            SpendScript x = new SpendScript();
            check.due("feed(0, " + b + ")", x.feed(0, b), true);
            check.due("digest behind feed(0, " + b + ")", x.digest(0, 0, 1), 17 * 31 + (b & 255));
        }
    }

    private static void clear() {
        SpendScript x = Check.fed("81x120", "82 83");
        check.due("clear(0)", x.clear(0), true);
        check.due("length(0)", x.length(0), 0);
        check.due("length(1)", x.length(1), 2);
        check.due("digest(0, 0, 1)", x.digest(0, 0, 1), 0);
        check.due("feed(0, 9)", x.feed(0, 9), true);
        check.due("digest(0, 0, 1)", x.digest(0, 0, 1), 17 * 31 + 9);
        check.due("clear(1)", x.clear(1), true);
        check.due("length(1)", x.length(1), 0);
        check.due("length(0)", x.length(0), 1);
        check.due("clear(1) of an empty one", x.clear(1), true);
    }

    private static void wrongScripts() {
        SpendScript x = Check.fed("81", "82 83");
        for (int which : WRONG_SCRIPTS) {
            check.due("feed(" + which + ", 1)", x.feed(which, 1), false);
            check.due("length(" + which + ")", x.length(which), -1);
            check.due("clear(" + which + ")", x.clear(which), false);
            check.due("digest(" + which + ", 0, 0)", x.digest(which, 0, 0), 0);
            check.due("digest(" + which + ", 0, 1)", x.digest(which, 0, 1), 0);
        }
        check.due("length(0)", x.length(0), 1);
        check.due("length(1)", x.length(1), 2);
    }

    private static void confirm() {
        SpendScript x = new SpendScript();
        for (int i = 0; i < 8; i++) {
            check.due("confirm " + i, x.confirm(5, 6), true);
        }
        check.due("confirm of a ninth that is there", x.confirm(5, 6), false);
        check.due("confirm of a ninth", x.confirm(7, 8), false);
    }

    private static void digest() {
        SpendScript x = Check.fed("1 2 255", "200x120");
        check.due("digest(0, 0, 0)", x.digest(0, 0, 0), 17);
        check.due("digest(0, 3, 0)", x.digest(0, 3, 0), 17);
        check.due("digest(0, 4, 0)", x.digest(0, 4, 0), 0);
        check.due("digest(0, 0, 1)", x.digest(0, 0, 1), 528);
        check.due("digest(0, 0, 3)", x.digest(0, 0, 3), (528 * 31 + 2) * 31 + 255);
        check.due("digest(0, 1, 2)", x.digest(0, 1, 2), (17 * 31 + 2) * 31 + 255);
        check.due("digest(0, 2, 1)", x.digest(0, 2, 1), 17 * 31 + 255);
        check.due("digest(0, 2, 2)", x.digest(0, 2, 2), 0);
        check.due("digest(0, 0, 4)", x.digest(0, 0, 4), 0);
        check.due("digest(0, -1, 2)", x.digest(0, -1, 2), 0);
        check.due("digest(0, -1, 1)", x.digest(0, -1, 1), 0);
        check.due("digest(0, -1, 0)", x.digest(0, -1, 0), 0);
        check.due("digest(0, 1, -1)", x.digest(0, 1, -1), 0);
        check.due("digest(0, MAX, MAX)", x.digest(0, Integer.MAX_VALUE, Integer.MAX_VALUE), 0);
        check.due("digest(0, 1, MAX)", x.digest(0, 1, Integer.MAX_VALUE), 0);
        check.due("digest(0, MAX, 1)", x.digest(0, Integer.MAX_VALUE, 1), 0);
        check.due("digest(0, MIN, MIN)", x.digest(0, Integer.MIN_VALUE, Integer.MIN_VALUE), 0);
        int h = 17;
        for (int i = 0; i < 120; i++) {
            h = h * 31 + 200;
        }
        check.due("digest(1, 0, 120)", x.digest(1, 0, 120), h);
        check.due("digest(1, 0, 121)", x.digest(1, 0, 121), 0);
    }
}
