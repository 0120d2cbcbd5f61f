/** The document's promises 1 to 14, sentence by sentence: what each says of its edges, from both sides. */
public final class PromiseEdgeTest {
    private static final Check check = new Check();
    private static final int MIN = Integer.MIN_VALUE;
    private static final int MAX = Integer.MAX_VALUE;
    /** Not 0 and not 1; some would be, with fewer bits. */
    private static final int[] WRONG_SCRIPTS = {-1, 2, 3, -2, 256, 257, 65536, MIN, MIN + 1, MAX};
    private static final String SIGNATURE = "48 3 2 1 7 1";
    private static final String KEY = "20 21";

    public static void main(String[] args) {
        anObjectIsUsedFor512Calls();
        aNewObject();
        feed();
        length();
        clear();
        confirm();
        digest();
        spend();
        result();
        ended();
        faultAt();
        done();
        items();
        itemLength();
        itemByte();
        check.finish();
    }

    private static void anObjectIsUsedFor512Calls() {
        check.sentence("An object is used for at most 512 calls after it has been made");
        SpendScript x = Check.fed("81x30", "97x25");
        for (int call = 56; call < 512; call++) {
            check.due("call " + call + ": spend", x.spend(), 0);
        }
        check.due("call 512: done", x.done(), 55);
        SpendScript y = new SpendScript();
        for (int call = 1; call < 510; call++) {
            check.due("call " + call + ": feed", y.feed(1, 81), call <= 120);
        }
        check.due("call 510: spend", y.spend(), 14);
        check.due("call 511: items", y.items(), 30);
        check.due("call 512: faultAt", y.faultAt(), 30);
    }

    // Promise 1.

    private static void aNewObject() {
        noScripts();
        emptyStacks();
        anEmptyTable();
        objectsApart();
    }

    private static void noScripts() {
        check.sentence("No scripts");
        SpendScript x = new SpendScript();
        check.due("length(0)", x.length(0), 0);
        check.due("length(1)", x.length(1), 0);
        check.due("digest(0, 0, 1)", x.digest(0, 0, 1), 0);
        check.due("digest(1, 0, 1)", x.digest(1, 0, 1), 0);
        check.due("spend()", x.spend(), 16);
        check.due("done()", x.done(), 0);
    }

    private static void emptyStacks() {
        check.sentence("empty stacks");
        SpendScript x = new SpendScript();
        check.due("items()", x.items(), 0);
        check.due("itemLength(0)", x.itemLength(0), -1);
        check.due("itemByte(0, 0)", x.itemByte(0, 0), -1);
    }

    private static void anEmptyTable() {
        check.sentence("an empty table");
        SpendScript x = new SpendScript();
        for (int i = 1; i <= 8; i++) {
            check.due("confirm of pair " + i, x.confirm(i, i), true);
        }
        String both = Check.push(SIGNATURE) + " " + Check.push(KEY);
        check.due("spend()", Check.fed(both, "172").spend(), 16);
        // Signature and key with an h of 0: a place that nothing was put into must not make a pair of them.
        String signature = "48 9 2 7 1 0 17 11 6 4 2 28";
        String key = "0 15 8 5 21 26 2";
        check.due("h of the signature", Check.h(signature), 0);
        check.due("h of the key", Check.h(key), 0);
        SpendScript zeros = Check.fed(Check.push(signature) + " " + Check.push(key), "172");
        check.due("spend()", zeros.spend(), 16);
        check.due("confirm(1, 1)", zeros.confirm(1, 1), true);
        check.due("spend()", zeros.spend(), 16);
        check.due("confirm(0, 0)", zeros.confirm(0, 0), true);
        check.due("spend()", zeros.spend(), 0);
    }

    private static void objectsApart() {
        check.sentence("No scripts, empty stacks, an empty table: also beside an object that has some");
        SpendScript full = Check.fed("81x120", "81x120");
        for (int i = 0; i < 8; i++) {
            full.confirm(Check.h(SIGNATURE), Check.h(KEY));
        }
        full.spend();
        SpendScript x = new SpendScript();
        check.due("outcome of a new one", Check.outcome(x), "-1 at -1 in -1 done 0: []");
        check.due("length(0)", x.length(0), 0);
        check.due("length(1)", x.length(1), 0);
        Check.feed(x, 0, Check.push(SIGNATURE) + " " + Check.push(KEY));
        check.due("feed(1, 172)", x.feed(1, 172), true);
        check.due("spend()", x.spend(), 16);
        check.due("confirm", x.confirm(Check.h(SIGNATURE), Check.h(KEY)), true);
        check.due("spend()", x.spend(), 0);
        check.due("items() of the other", full.items(), 30);
    }

    // Promise 2.

    private static void feed() {
        onlyTheLowestByte();
        appended();
        feedOfAWrongScript();
        feedOfAFullScript();
    }

    private static void onlyTheLowestByte() {
        check.sentence("Appends byte b & 255 to script which");
        for (int which = 0; which < 2; which++) {
            for (int b : new int[] {0, 1, 127, 128, 255, 256, 257, 511, 65536, -1, -127, -128, -256, MIN, MAX}) {
                SpendScript x = new SpendScript();
                check.due("feed(" + which + ", " + b + ")", x.feed(which, b), true);
                check.due("digest behind feed of " + b, x.digest(which, 0, 1), 17 * 31 + (b & 255));
            }
        }
        SpendScript x = new SpendScript();
        x.feed(0, 81 + 256);
        x.feed(1, 147 - 256);
        check.due("spend of 81 + 256, 147 - 256", x.spend(), 11);
        check.due("items", Check.items(x), "[1]");
    }

    private static void appended() {
        check.sentence("Appends byte b & 255 to script which: behind all that are there, and to no other");
        SpendScript x = new SpendScript();
        for (int i = 0; i < 120; i++) {
            x.feed(0, i);
            x.feed(1, 255 - i);
        }
        for (int i = 0; i < 120; i++) {
            check.due("digest(0, " + i + ", 1)", x.digest(0, i, 1), 17 * 31 + i);
            check.due("digest(1, " + i + ", 1)", x.digest(1, i, 1), 17 * 31 + 255 - i);
        }
    }

    private static void feedOfAWrongScript() {
        check.sentence("false if it is not 0 or 1");
        SpendScript x = Check.fed("81", "82 83");
        for (int which : WRONG_SCRIPTS) {
            check.due("feed(" + which + ", 81)", x.feed(which, 81), false);
        }
        check.due("length(0)", x.length(0), 1);
        check.due("length(1)", x.length(1), 2);
        check.due("spend()", x.spend(), 0);
        check.due("behind it", Check.outcome(x), "0 at -1 in 1 done 3: [3 2 1]");
    }

    private static void feedOfAFullScript() {
        check.sentence("or has 120");
        for (int which = 0; which < 2; which++) {
            SpendScript x = new SpendScript();
            Check.feed(x, which, "7x119");
            check.due("feed to one that has 119", x.feed(which, 7), true);
            int h = x.digest(which, 0, 120);
            check.due("feed to one that has 120", x.feed(which, 8), false);
            check.due("feed to one that has 120", x.feed(which, 9), false);
            check.due("length", x.length(which), 120);
            check.due("digest", x.digest(which, 0, 120), h);
            check.due("feed to the other", x.feed(1 - which, 8), true);
            check.due("clear", x.clear(which), true);
            check.due("feed behind clear", x.feed(which, 9), true);
            check.due("digest behind clear", x.digest(which, 0, 1), 17 * 31 + 9);
        }
    }

    // Promise 3.

    private static void length() {
        check.sentence("The length of script which");
        SpendScript x = new SpendScript();
        check.due("length(0) of none", x.length(0), 0);
        check.due("length(1) of none", x.length(1), 0);
        for (int i = 1; i <= 121; i++) {
            x.feed(0, 81);
            check.due("length(0) behind " + i, x.length(0), Math.min(i, 120));
            check.due("length(1) behind " + i, x.length(1), 0);
        }
        x.feed(1, 81);
        check.due("length(1)", x.length(1), 1);
        check.sentence("-1 if it is not 0 or 1");
        for (int which : WRONG_SCRIPTS) {
            check.due("length(" + which + ")", x.length(which), -1);
        }
        SpendScript y = Check.fed("82 2 81 97", Check.lock("81 97"));
        check.due("spend() with script 2", y.spend(), 0);
        check.due("ended()", y.ended(), 2);
        check.due("length(2)", y.length(2), -1);
    }

    // Promise 4.

    private static void clear() {
        check.sentence("Makes script which empty");
        for (int which = 0; which < 2; which++) {
            SpendScript x = Check.fed("81x120", "82x120");
            check.due("clear(" + which + ")", x.clear(which), true);
            check.due("length", x.length(which), 0);
            check.due("digest", x.digest(which, 0, 1), 0);
            check.due("length of the other", x.length(1 - which), 120);
            check.due("clear of an empty one", x.clear(which), true);
            check.due("length", x.length(which), 0);
        }
        SpendScript gone = Check.fed("81 98", "106");
        gone.clear(0);
        gone.clear(1);
        check.due("spend()", gone.spend(), 16);
        check.sentence("false if it is not 0 or 1");
        SpendScript x = Check.fed("81", "82 83");
        for (int which : WRONG_SCRIPTS) {
            check.due("clear(" + which + ")", x.clear(which), false);
        }
        check.due("length(0)", x.length(0), 1);
        check.due("length(1)", x.length(1), 2);
    }

    // Promise 5.

    private static void confirm() {
        anyPair();
        alsoIfItIsThere();
        aFullTable();
        theTableStays();
    }

    private static void anyPair() {
        check.sentence("Puts the pair of a signature's and a key's h into the table");
        String both = Check.push(SIGNATURE) + " " + Check.push(KEY);
        SpendScript x = Check.fed(both, "172");
        check.due("spend()", x.spend(), 16);
        check.due("confirm of h's the wrong way round", x.confirm(Check.h(KEY), Check.h(SIGNATURE)), true);
        check.due("spend()", x.spend(), 16);
        check.due("confirm", x.confirm(Check.h(SIGNATURE), Check.h(KEY)), true);
        check.due("spend()", x.spend(), 0);
        for (int h : new int[] {0, -1, MIN, MAX}) {
            check.due("confirm(" + h + ", " + h + ")", new SpendScript().confirm(h, h), true);
        }
    }

    private static void alsoIfItIsThere() {
        check.sentence("also if it is there; (it counts as another one then;)");
        SpendScript x = new SpendScript();
        for (int i = 1; i <= 8; i++) {
            check.due("confirm of the same, " + i, x.confirm(5, 6), true);
        }
        check.due("confirm of the same, 9", x.confirm(5, 6), false);
        check.due("confirm of another", x.confirm(6, 5), false);
    }

    private static void aFullTable() {
        check.sentence("false if the table has 8 pairs");
        SpendScript x = Check.fed(Check.push(SIGNATURE) + " " + Check.push(KEY), "172");
        for (int i = 1; i <= 8; i++) {
            check.due("confirm of pair " + i, x.confirm(i, i), true);
        }
        check.due("confirm of pair 9", x.confirm(Check.h(SIGNATURE), Check.h(KEY)), false);
        check.due("confirm of pair 9 again", x.confirm(Check.h(SIGNATURE), Check.h(KEY)), false);
        check.due("confirm of one that is there", x.confirm(8, 8), false);
        check.due("spend(): what was refused is not there", x.spend(), 16);
        SpendScript y = Check.fed(Check.push(SIGNATURE) + " " + Check.push(KEY), "172");
        for (int i = 1; i <= 7; i++) {
            check.due("confirm of pair " + i, y.confirm(i, i), true);
        }
        check.due("confirm of pair 8", y.confirm(Check.h(SIGNATURE), Check.h(KEY)), true);
        check.due("confirm of pair 9", y.confirm(1, 2), false);
        check.due("spend(): what was put last is there", y.spend(), 0);
    }

    private static void theTableStays() {
        check.sentence("false if the table has 8 pairs: neither clear() nor spend() takes any out");
        SpendScript x = Check.fed(Check.push(SIGNATURE) + " " + Check.push(KEY), "172");
        for (int i = 1; i <= 8; i++) {
            x.confirm(Check.h(SIGNATURE), Check.h(KEY));
        }
        check.due("spend()", x.spend(), 0);
        check.due("confirm behind spend()", x.confirm(1, 1), false);
        x.clear(0);
        x.clear(1);
        check.due("confirm behind clear()", x.confirm(1, 1), false);
        Check.feed(x, 0, Check.push(SIGNATURE) + " " + Check.push(KEY));
        Check.feed(x, 1, "173 81");
        check.due("spend()", x.spend(), 0);
    }

    // Promise 6.

    private static void digest() {
        partsOfAScript();
        noBytes();
        negativeFrom();
        negativeN();
        moreThanTheLength();
        sumsThatWrap();
        digestOfAWrongScript();
    }

    private static void partsOfAScript() {
        check.sentence("The h of the n bytes of script which that begin at from");
        SpendScript x = Check.fed("1 2 255", "200x120");
        check.due("digest(0, 0, 1)", x.digest(0, 0, 1), 17 * 31 + 1);
        check.due("digest(0, 2, 1)", x.digest(0, 2, 1), 17 * 31 + 255);
        check.due("digest(0, 0, 2)", x.digest(0, 0, 2), (17 * 31 + 1) * 31 + 2);
        check.due("digest(0, 1, 2)", x.digest(0, 1, 2), (17 * 31 + 2) * 31 + 255);
        check.due("digest(0, 0, 3)", x.digest(0, 0, 3), ((17 * 31 + 1) * 31 + 2) * 31 + 255);
        check.due("digest(1, 0, 120)", x.digest(1, 0, 120), Check.h("200x120"));
        check.due("digest(1, 119, 1)", x.digest(1, 119, 1), 17 * 31 + 200);
        check.due("digest(1, 1, 119)", x.digest(1, 1, 119), Check.h("200x119"));
        SpendScript wrapping = Check.fed("48 3 2 1 7 1", "255x6");
        check.due("digest(0, 0, 6)", wrapping.digest(0, 0, 6), -715276035);
        check.due("digest(1, 0, 5)", wrapping.digest(1, 0, 5), 730043342);
        check.due("digest(1, 0, 6)", wrapping.digest(1, 0, 6), (int) 22631343857L);
    }

    private static void noBytes() {
        check.sentence("17 if n is 0");
        SpendScript x = Check.fed("1 2 255", "");
        for (int from = 0; from <= 3; from++) {
            check.due("digest(0, " + from + ", 0)", x.digest(0, from, 0), 17);
        }
        check.due("digest(1, 0, 0) of an empty script", x.digest(1, 0, 0), 17);
        check.due("digest(0, 4, 0)", x.digest(0, 4, 0), 0);
        check.due("digest(1, 1, 0)", x.digest(1, 1, 0), 0);
        check.due("digest(0, -1, 0)", x.digest(0, -1, 0), 0);
        check.due("digest(2, 0, 0)", x.digest(2, 0, 0), 0);
    }

    private static void negativeFrom() {
        check.sentence("0 if from .. is negative");
        SpendScript x = Check.fed("1 2 255", "7");
        for (int n : new int[] {0, 1, 2, 3, 4}) {
            check.due("digest(0, -1, " + n + ")", x.digest(0, -1, n), 0);
            check.due("digest(0, MIN, " + n + ")", x.digest(0, MIN, n), 0);
        }
        check.due("digest(0, MIN, MAX)", x.digest(0, MIN, MAX), 0);
        check.due("digest(0, -MAX, MAX)", x.digest(0, -MAX, MAX), 0);
    }

    private static void negativeN() {
        check.sentence("0 if .. n is negative");
        SpendScript x = Check.fed("1 2 255", "7");
        for (int from : new int[] {0, 1, 2, 3, 4}) {
            check.due("digest(0, " + from + ", -1)", x.digest(0, from, -1), 0);
            check.due("digest(0, " + from + ", MIN)", x.digest(0, from, MIN), 0);
        }
        check.due("digest(0, MAX, -MAX)", x.digest(0, MAX, -MAX), 0);
        check.due("digest(0, -1, -1)", x.digest(0, -1, -1), 0);
    }

    private static void moreThanTheLength() {
        check.sentence("0 if .. from + n is more than the script's length");
        SpendScript x = Check.fed("1 2 255", "7x120");
        check.due("digest(0, 0, 4)", x.digest(0, 0, 4), 0);
        check.due("digest(0, 1, 3)", x.digest(0, 1, 3), 0);
        check.due("digest(0, 2, 2)", x.digest(0, 2, 2), 0);
        check.due("digest(0, 3, 1)", x.digest(0, 3, 1), 0);
        check.due("digest(0, 4, 0)", x.digest(0, 4, 0), 0);
        check.due("digest(1, 0, 121)", x.digest(1, 0, 121), 0);
        check.due("digest(1, 119, 2)", x.digest(1, 119, 2), 0);
        check.due("digest(1, 120, 1)", x.digest(1, 120, 1), 0);
        check.due("digest(1, 121, 0)", x.digest(1, 121, 0), 0);
        check.due("digest(1, 120, 0)", x.digest(1, 120, 0), 17);
        check.due("digest(1, 119, 1)", x.digest(1, 119, 1), 17 * 31 + 7);
    }

    private static void sumsThatWrap() {
        check.sentence("0 if .. from + n is more than the script's length: also if the sum would wrap");
        SpendScript x = Check.fed("1 2 255", "7x120");
        for (int which = 0; which < 2; which++) {
            check.due("digest(.., MAX, MAX)", x.digest(which, MAX, MAX), 0);
            check.due("digest(.., MAX, 1)", x.digest(which, MAX, 1), 0);
            check.due("digest(.., 1, MAX)", x.digest(which, 1, MAX), 0);
            check.due("digest(.., 2, MAX)", x.digest(which, 2, MAX), 0);
            check.due("digest(.., MAX, 2)", x.digest(which, MAX, 2), 0);
            check.due("digest(.., MAX, 0)", x.digest(which, MAX, 0), 0);
            check.due("digest(.., 0, MAX)", x.digest(which, 0, MAX), 0);
        }
    }

    private static void digestOfAWrongScript() {
        check.sentence("0 if .. which is not 0 or 1");
        SpendScript x = Check.fed("82 2 81 97", Check.lock("81 97"));
        check.due("spend() with script 2", x.spend(), 0);
        for (int which : WRONG_SCRIPTS) {
            check.due("digest(" + which + ", 0, 0)", x.digest(which, 0, 0), 0);
            check.due("digest(" + which + ", 0, 1)", x.digest(which, 0, 1), 0);
        }
    }

    // Promise 7.

    private static void spend() {
        check.sentence("Spends, as said: 0, or the first fault.");
        String[][] spendings = {
            {"81", "", "0"}, {"81 33", "106", "2"}, {"81 2 7", "106", "3"}, {"81 1 7", "106", "5"},
            {"81", "97x26 106", "6"}, {"81", "104 106", "7"}, {"81 81", "99", "7"}, {"0", "99x9 106", "8"},
            {"0", "105 106", "9"}, {"0", "106 105", "10"}, {"0", "109 106", "11"}, {"5 0x5", "139 106", "12"},
            {"81 79", "121 106", "13"}, {"81x31", "106", "14"}, {"97", "106", "15"}, {"0", "", "16"}};
        for (String[] row : spendings) {
            SpendScript x = Check.fed(row[0], row[1]);
            check.due("spend() of <" + row[0] + "> <" + row[1] + ">", x.spend(), Integer.parseInt(row[2]));
            check.due("spend() again", x.spend(), Integer.parseInt(row[2]));
        }
        check.due("spend() with script 2", Check.fed("81 1 106", Check.lock("106")).spend(), 10);
    }

    // Promise 8.

    private static void result() {
        check.sentence("What the latest spend() answered");
        SpendScript x = Check.fed("81", "");
        check.due("spend()", x.spend(), 0);
        check.due("result()", x.result(), 0);
        x.feed(1, 106);
        check.due("result() before the next", x.result(), 0);
        check.due("spend()", x.spend(), 10);
        check.due("result()", x.result(), 10);
        x.clear(1);
        check.due("result() behind clear()", x.result(), 10);
        check.due("spend()", x.spend(), 0);
        check.due("result()", x.result(), 0);
        check.sentence("-1 if there was none");
        SpendScript y = new SpendScript();
        check.due("result()", y.result(), -1);
        y.feed(0, 81);
        y.confirm(1, 1);
        y.clear(0);
        check.due("result() behind other calls", y.result(), -1);
    }

    // Promise 9.

    private static void ended() {
        check.sentence("The script that was run last in the latest spending, 0 .. 2");
        endedBehind("97", "", 0);
        endedBehind("81 33", Check.lock(""), 0);
        endedBehind("", "", 1);
        endedBehind("81", "", 1);
        endedBehind("81", "106", 1);
        endedBehind("0", Check.lock("7"), 1);
        endedBehind("", Check.lock(""), 1);
        endedBehind("81 0", Check.lock(""), 2);
        endedBehind("0", Check.lock(""), 2);
        endedBehind("1 106", Check.lock("106"), 2);
        SpendScript x = Check.fed("81 0", Check.lock(""));
        x.spend();
        check.due("ended()", x.ended(), 2);
        x.clear(1);
        check.due("ended() behind clear()", x.ended(), 2);
        x.spend();
        check.due("ended() of the next", x.ended(), 1);
        x.feed(0, 97);
        x.spend();
        check.due("ended() of the next", x.ended(), 0);
        check.sentence("-1 if there was none");
        check.due("ended()", new SpendScript().ended(), -1);
        check.due("ended()", Check.fed("81", "81").ended(), -1);
    }

    private static void endedBehind(String unlocking, String locking, int want) {
        SpendScript x = Check.fed(unlocking, locking);
        x.spend();
        check.due("ended() of <" + unlocking + "> <" + locking + ">", x.ended(), want);
    }

    // Promise 10.

    private static void faultAt() {
        theFirstByte();
        theLengthFor16();
        theLengthFor7();
        noFault();
    }

    private static void faultAt(String unlocking, String locking, int want) {
        SpendScript x = Check.fed(unlocking, locking);
        x.spend();
        check.due("faultAt() of <" + unlocking + "> <" + locking + ">", x.faultAt(), want);
    }

    private static void theFirstByte() {
        check.sentence("The place of the fault of the latest spending: of the first byte of the push or operation");
        faultAt("33", "", 0);
        faultAt("3 7 7", "", 0);
        faultAt("3 7 7 7 1 7", "", 4);
        faultAt("32 7x32 32 7x31", "", 33);
        faultAt("81x30 5 7x5", "", 30);
        faultAt("81", "106", 0);
        faultAt("81", "5 7x5 106", 6);
        faultAt("0", "99 5 7x5 33 104", 7);
        faultAt("81 4 97 97 97 106", Check.lock("97 97 97 106"), 3);
        faultAt("81 4 2 7 7 106", Check.lock("2 7 7 106"), 3);
    }

    private static void theLengthFor16() {
        check.sentence("the length of the script run last for 16");
        faultAt("", "", 0);
        faultAt("0 0 0", "", 0);
        faultAt("0", "97", 1);
        faultAt("81", "5 0x5", 6);
        faultAt("", "97x25 31 7x31 31 7x31 29 7x29 0", 120);
        faultAt("82", Check.lock("7"), 7);
        faultAt("0 0", Check.lock(""), 0);
        faultAt("0 2 97 97", Check.lock("97 97"), 2);
        faultAt("30 0x30", Check.lock("0x30"), 30);
    }

    private static void theLengthFor7() {
        check.sentence("and for 7 at its end");
        faultAt("81", "99", 1);
        faultAt("81", "99 5 7x5", 7);
        faultAt("0", "99 5 7x5", 7);
        faultAt("81 3 99 97 97", Check.lock("99 97 97"), 3);
        // Elsewhere 7 has the place of the operation.
        faultAt("81", "97 104 97", 1);
        faultAt("81", "97 103 97", 1);
    }

    private static void noFault() {
        check.sentence("-1 if there was no fault or no spending");
        check.due("faultAt() of a new object", new SpendScript().faultAt(), -1);
        check.due("faultAt() before any spending", Check.fed("33", "106").faultAt(), -1);
        faultAt("81", "", -1);
        faultAt("81 0", Check.lock(""), -1);
        SpendScript x = Check.fed("81", "106");
        x.spend();
        check.due("faultAt()", x.faultAt(), 0);
        x.clear(1);
        check.due("faultAt() behind clear()", x.faultAt(), 0);
        x.spend();
        check.due("faultAt() of the next", x.faultAt(), -1);
    }

    // Promise 11.

    private static void done() {
        doneInAllScripts();
        branchesEverywhere();
        theFaultyOneNot();
        noneDone();
    }

    private static void doneIs(String unlocking, String locking, int want) {
        SpendScript x = Check.fed(unlocking, locking);
        x.spend();
        check.due("done() of <" + unlocking + "> <" + locking + ">", x.done(), want);
        x.spend();
        check.due("done() of it again", x.done(), want);
    }

    private static void doneInAllScripts() {
        check.sentence("How many pushes and operations were done in the latest spending, (in all its scripts,)");
        doneIs("", "", 0);
        doneIs("81", "", 1);
        doneIs("32 7x32", "", 1);
        doneIs("81", "82 97", 3);
        doneIs("81 0", Check.lock(""), 5);
        doneIs("81 3 97 97 81", Check.lock("97 97 81"), 8);
        doneIs("81x30", "97x25", 55);
        // 115 is done also if it pushes nothing; what is passed over is not.
        doneIs("0", "115 81", 3);
        doneIs("81 0", "99 82 97 118 104", 4);
    }

    private static void branchesEverywhere() {
        check.sentence("99, 100, 103 and 104 everywhere among them");
        doneIs("81 81", "99 103 104", 5);
        doneIs("81 0", "99 99 100 103 103 104 104 104", 10);
        doneIs("81 0", "99 97 99 97 103 97 104 97 104", 7);
    }

    private static void theFaultyOneNot() {
        check.sentence("the faulty one not");
        doneIs("81 33", "", 1);
        doneIs("81 1 7", "", 1);
        doneIs("81x31", "", 30);
        doneIs("81 97", "", 1);
        doneIs("81", "97 106", 2);
        doneIs("81", "97 104", 2);
        doneIs("81", "97 103", 2);
        doneIs("81", "99 99", 2);
        doneIs("81 0", "99x9", 10);
        doneIs("81", "97x26", 26);
        doneIs("81 2 97 106", Check.lock("97 106"), 6);
        // Behind 16, and 7 at the end, no push or operation was the faulty one.
        doneIs("0", "97", 2);
        doneIs("81", "99", 2);
    }

    private static void noneDone() {
        check.sentence("0 if there was none");
        check.due("done() of a new object", new SpendScript().done(), 0);
        check.due("done() before any spending", Check.fed("81", "97").done(), 0);
    }

    // Promise 12.

    private static void items() {
        check.sentence("How many items the stack has since the latest spending");
        itemsAre("", "", 0);
        itemsAre("0", "", 1);
        itemsAre("81x30", "", 30);
        itemsAre("81x30", "107 107", 28);
        itemsAre("81", "117", 0);
        itemsAre("84 83 82 0", Check.lock(""), 3);
        check.sentence("0 if there was none");
        check.due("items() of a new object", new SpendScript().items(), 0);
        check.due("items() before any spending", Check.fed("81", "81").items(), 0);
        check.sentence("Behind a fault those that there were before");
        itemsAre("81x31", "", 30);
        itemsAre("81 81 33", "", 2);
        itemsAre("81 82", "157", 2);
        itemsAre("81x29", "110", 29);
        itemsAre("81 82 1 106", Check.lock("106"), 2);
        itemsAre("82 1 97", Check.lock("98"), 2);
        feedAndClearLeaveThem();
    }

    private static void itemsAre(String unlocking, String locking, int want) {
        SpendScript x = Check.fed(unlocking, locking);
        x.spend();
        check.due("items() of <" + unlocking + "> <" + locking + ">", x.items(), want);
        x.spend();
        check.due("items() of it again", x.items(), want);
    }

    private static void feedAndClearLeaveThem() {
        check.sentence("feed() and clear() leave them");
        SpendScript x = Check.fed("0 3 7 8 9", "106");
        x.spend();
        String left = "10 at 0 in 1 done 2: [7.8.9 e]";
        check.due("behind spend()", Check.outcome(x), left);
        x.feed(0, 81);
        x.feed(1, 117);
        check.due("behind feed()", Check.outcome(x), left);
        x.clear(0);
        check.due("behind clear(0)", Check.outcome(x), left);
        x.clear(1);
        check.due("behind clear(1)", Check.outcome(x), left);
        x.feed(0, 3);
        x.feed(0, 1);
        x.feed(2, 1);
        x.clear(2);
        x.confirm(1, 2);
        x.digest(0, 0, 1);
        check.due("behind more calls", Check.outcome(x), left);
    }

    // Promise 13.

    private static void itemLength() {
        check.sentence("The length of item k of the stack (0 the top)");
        SpendScript x = Check.fed("0 32 7x32 3 7x3 81", "");
        check.due("itemLength(0) before any spending", x.itemLength(0), -1);
        x.spend();
        check.due("itemLength(0)", x.itemLength(0), 1);
        check.due("itemLength(1)", x.itemLength(1), 3);
        check.due("itemLength(2)", x.itemLength(2), 32);
        check.due("itemLength(3)", x.itemLength(3), 0);
        SpendScript full = Check.fed("2 7 7 81x29", "");
        full.spend();
        check.due("itemLength(28)", full.itemLength(28), 1);
        check.due("itemLength(29)", full.itemLength(29), 2);
        check.sentence("-1 if there is none");
        for (int k : new int[] {-1, 4, 5, 29, 30, 256, MIN, MIN + 1, MAX}) {
            check.due("itemLength(" + k + ")", x.itemLength(k), -1);
        }
        check.due("itemLength(30) of thirty", full.itemLength(30), -1);
        check.due("itemLength(-1) of thirty", full.itemLength(-1), -1);
        // Fewer items than before: those that were there are none.
        Check.feedAnew(full, "81", "");
        full.spend();
        check.due("itemLength(0)", full.itemLength(0), 1);
        check.due("itemLength(1)", full.itemLength(1), -1);
        check.due("itemLength(29)", full.itemLength(29), -1);
        // What lies on the second stack is none.
        SpendScript second = Check.fed("81 82", "107");
        second.spend();
        check.due("itemLength(1)", second.itemLength(1), -1);
    }

    // Promise 14.

    private static void itemByte() {
        check.sentence("Byte i (0 the first) of item k, 0 .. 255");
        SpendScript x = Check.fed("0 32 9 7x30 8 4 0 127 128 255 81", "");
        check.due("itemByte(0, 0) before any spending", x.itemByte(0, 0), -1);
        x.spend();
        check.due("itemByte(0, 0)", x.itemByte(0, 0), 1);
        check.due("itemByte(1, 0)", x.itemByte(1, 0), 0);
        check.due("itemByte(1, 1)", x.itemByte(1, 1), 127);
        check.due("itemByte(1, 2)", x.itemByte(1, 2), 128);
        check.due("itemByte(1, 3)", x.itemByte(1, 3), 255);
        check.due("itemByte(2, 0)", x.itemByte(2, 0), 9);
        check.due("itemByte(2, 31)", x.itemByte(2, 31), 8);
        check.sentence("-1 if there is none");
        check.due("itemByte(0, 1)", x.itemByte(0, 1), -1);
        check.due("itemByte(1, 4)", x.itemByte(1, 4), -1);
        check.due("itemByte(2, 32)", x.itemByte(2, 32), -1);
        check.due("itemByte(3, 0) of the empty one", x.itemByte(3, 0), -1);
        for (int i : new int[] {-1, 33, 256, MIN, MIN + 1, MAX}) {
            check.due("itemByte(2, " + i + ")", x.itemByte(2, i), -1);
        }
        for (int k : new int[] {-1, 4, 5, 29, 30, 256, MIN, MIN + 1, MAX}) {
            check.due("itemByte(" + k + ", 0)", x.itemByte(k, 0), -1);
            check.due("itemByte(" + k + ", " + k + ")", x.itemByte(k, k), -1);
        }
        // Shorter items, and fewer, than before: the bytes that were there are none.
        Check.feedAnew(x, "81", "");
        x.spend();
        check.due("itemByte(0, 1)", x.itemByte(0, 1), -1);
        check.due("itemByte(1, 0)", x.itemByte(1, 0), -1);
        check.due("itemByte(2, 0)", x.itemByte(2, 0), -1);
    }
}
