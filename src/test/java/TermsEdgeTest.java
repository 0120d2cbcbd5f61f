import java.util.Set;

/**
 * The document's "Terms" (but for the rows of operations), sentence by sentence: what each says of its edges,
 * from both sides.
 */
public final class TermsEdgeTest {
    private static final Check check = new Check();
    private static final Set<Integer> ANSWERS = Set.of(0, 2, 3, 5, 6, 7, 8, 9, 10, 11, 12, 13, 14, 15, 16);
    private static final String SIGNATURE = "48 3 2 1 7 1";
    private static final String KEY = "20 21";

    public static void main(String[] args) {
        scriptsAndItems();
        numbers();
        truth();
        digest();
        pushes();
        operationsMet();
        branches();
        faultsInTheirOrder();
        signatures();
        spending();
        check.finish();
    }

    private static String ones(int count) {
        return "1 ".repeat(count).trim();
    }

    // From "Both are small programs" to "together at most 30".

    private static void scriptsAndItems() {
        theTwoScriptsInTurn();
        theScriptLeftOnTop();
        toldBeforehand();
        everyScriptEnds();
        scriptsOfAtMost120Bytes();
        theLastOf120BytesIsRun();
        theScriptFromTheStack();
        itemsOf0To32Bytes();
        atMost30Items();
    }

    private static void theTwoScriptsInTurn() {
        check.sentence("the unlocking one runs first, then the locking one on the stack that is left");
        check.spend("", "", "16 at 0 in 1 done 0: []");
        check.spend("83 81", "148", "0 at -1 in 1 done 3: [2]");
        check.spend("83 81 148", "", "15 at 2 in 0 done 2: [1 3]");
        check.spend("", "83 81 148", "0 at -1 in 1 done 3: [2]");
        check.spend("83", "81 148", "0 at -1 in 1 done 3: [2]");
    }

    private static void theScriptLeftOnTop() {
        check.sentence("if the locking one has the form \"digest of a script\", the script that the unlocking one "
            + "left on top runs too");
        check.spend("82 1 97", Check.lock("97"), "0 at -1 in 2 done 6: [2]");
        check.spend("82 1 97 1 106", Check.lock("106"), "10 at 0 in 2 done 6: [97 2]");
        check.spend("82 1 97", "169 4 " + Check.digest("97").replace('.', ' ') + " 136", "0 at -1 in 1 done 5: [2]");
    }

    private static void toldBeforehand() {
        check.sentence("Which signatures are valid for which keys is told beforehand in a table.");
        SpendScript x = Check.fed("81 " + Check.push(SIGNATURE) + " " + Check.push(KEY), "173");
        check.due("spend() before confirm()", x.spend(), 9);
        check.due("confirm()", x.confirm(Check.h(SIGNATURE), Check.h(KEY)), true);
        check.due("behind confirm()", Check.outcome(x), "9 at 0 in 1 done 3: [20.21 48.3.2.1.7.1 1]");
        check.due("spend() behind confirm()", x.spend(), 0);
    }

    private static void everyScriptEnds() {
        check.sentence("A script has no loops, so it always ends.");
        for (int b = 0; b <= 255; b++) {
            check.due("spend of 120 bytes " + b, ANSWERS.contains(Check.fed(b + "x120", "").spend()), true);
            check.due("spend with 120 bytes " + b, ANSWERS.contains(Check.fed("81x9", b + "x120").spend()), true);
        }
    }

    private static void scriptsOfAtMost120Bytes() {
        check.sentence("SCRIPTS 0 (unlocking) and 1 (locking) have at most 120 bytes each");
        for (int which = 0; which < 2; which++) {
            SpendScript x = new SpendScript();
            Check.feed(x, which, "97x119");
            check.due("feed of a 120th byte", x.feed(which, 7), true);
            check.due("feed of a 121st byte", x.feed(which, 8), false);
            check.due("length", x.length(which), 120);
            check.due("digest of the last byte", x.digest(which, 119, 1), 17 * 31 + 7);
        }
        SpendScript both = Check.fed("81x120", "97x120");
        check.due("feed to script 0 with both full", both.feed(0, 1), false);
        check.due("feed to script 1 with both full", both.feed(1, 1), false);
        check.due("spend with both full", both.spend(), 14);
    }

    private static void theLastOf120BytesIsRun() {
        check.sentence("SCRIPTS 0 (unlocking) and 1 (locking) have at most 120 bytes each: the last is run");
        String most = "31 7x31 ".repeat(3) + "22 7x22 ";
        String left = "[" + "7" + ".7".repeat(21) + (" 7" + ".7".repeat(30)).repeat(3) + "]";
        check.spend(most + "33", "", "2 at 119 in 0 done 4: " + left);
        check.spend(most + "2", "", "3 at 119 in 0 done 4: " + left);
        check.spend("", most + "104", "7 at 119 in 1 done 4: " + left);
        check.spend("", most + "97", "0 at -1 in 1 done 5: " + left);
        check.spend("", most + "0", "16 at 120 in 1 done 5: [e " + left.substring(1));
    }

    private static void theScriptFromTheStack() {
        check.sentence("script 2 is the one from the stack");
        String most = "97x25 2 7 7 2 7 7";
        check.spend("82 32 " + most + " 97", Check.lock(most + " 97"), "6 at 31 in 2 done 32: [7.7 7.7 2]");
        check.spend("82 32 " + most + " 81", Check.lock(most + " 81"), "0 at -1 in 2 done 33: [1 7.7 7.7 2]");
        check.spend("82 32 " + most + " 1", Check.lock(most + " 1"), "3 at 31 in 2 done 32: [7.7 7.7 2]");
        check.spend("82 0", Check.lock(""), "0 at -1 in 2 done 5: [2]");
    }

    private static void itemsOf0To32Bytes() {
        check.sentence("An ITEM is a string of 0 .. 32 bytes.");
        check.spend("0", "81", "0 at -1 in 1 done 2: [1 e]");
        check.spend("31 9x31", "", "0 at -1 in 1 done 1: [9" + ".9".repeat(30) + "]");
        check.spend("32 9x32", "", "0 at -1 in 1 done 1: [9" + ".9".repeat(31) + "]");
        check.spend("33 9x33", "", "2 at 0 in 0 done 0: []");
    }

    private static void atMost30Items() {
        check.sentence("There are a STACK and a SECOND STACK of items, together at most 30.");
        check.spend("81x30", "", "0 at -1 in 1 done 30: [" + ones(30) + "]");
        check.spend("81x31", "", "14 at 30 in 0 done 30: [" + ones(30) + "]");
        check.spend("81x30", "0", "14 at 0 in 1 done 30: [" + ones(30) + "]");
        check.spend("81x30", "107 107 81", "14 at 2 in 1 done 32: [" + ones(28) + "]");
        check.spend("81x29", "107 107 81 81", "14 at 3 in 1 done 32: [" + ones(28) + "]");
        check.spend("81x30", "107 107 117 81", "0 at -1 in 1 done 34: [" + ones(28) + "]");
        check.spend("81x30", "107 107 108 108", "0 at -1 in 1 done 34: [" + ones(30) + "]");
        check.spend("81x30", "107x24 118", "14 at 24 in 1 done 54: [" + ones(6) + "]");
    }

    // NUMBERS.

    private static void numbers() {
        atMost4Bytes();
        valuesOfItems();
        theEmptyItemIs0();
        pushedAsTheShortest();
        pushed0();
        pushedWith5Bytes();
    }

    private static void atMost4Bytes() {
        check.sentence("an item of at most 4 bytes is a number");
        check.spend("4 1 0 0 0", "139", "0 at -1 in 1 done 2: [2]");
        check.spend("5 1 0 0 0 0", "139", "12 at 0 in 1 done 1: [1.0.0.0.0]");
        check.spend("5 0x5", "145", "12 at 0 in 1 done 1: [0.0.0.0.0]");
        check.spend("32 0x32", "145", "12 at 0 in 1 done 1: [0" + ".0".repeat(31) + "]");
    }

    private static void valuesOfItems() {
        check.sentence("its bytes, the lowest first, without the highest bit of the last, are its absolute value; "
            + "it is negative if that bit is 1");
        plusOne("1 127", "128.0");
        plusOne("1 255", "254");
        plusOne("1 128", "1");
        plusOne("2 0 128", "1");
        plusOne("2 128 0", "129.0");
        plusOne("2 128 128", "255");
        plusOne("2 0 1", "1.1");
        plusOne("2 0 129", "255.128");
        plusOne("3 0 0 1", "1.0.1");
        plusOne("3 0 0 128", "1");
        plusOne("4 0 0 0 1", "1.0.0.1");
        plusOne("4 0 0 0 128", "1");
        plusOne("4 1 2 3 4", "2.2.3.4");
        plusOne("4 255 255 255 127", "0.0.0.128.0");
        plusOne("4 255 255 255 255", "254.255.255.255");
    }

    private static void plusOne(String push, String want) {
        check.spend(push, "139", "0 at -1 in 1 done 2: [" + want + "]");
    }

    private static void minusOne(String push, String want) {
        check.spend(push, "140", "0 at -1 in 1 done 2: [" + want + "]");
    }

    private static void theEmptyItemIs0() {
        check.sentence("the empty item is 0");
        plusOne("0", "1");
        minusOne("0", "129");
        check.spend("0", "145", "0 at -1 in 1 done 2: [1]");
    }

    private static void pushedAsTheShortest() {
        check.sentence("A number is PUSHED as the shortest item that is it");
        plusOne("1 126", "127");
        plusOne("1 127", "128.0");
        plusOne("2 254 0", "255.0");
        plusOne("2 255 0", "0.1");
        plusOne("2 254 127", "255.127");
        plusOne("2 255 127", "0.128.0");
        plusOne("3 254 255 127", "255.255.127");
        plusOne("3 255 255 127", "0.0.128.0");
        plusOne("4 254 255 255 127", "255.255.255.127");
        minusOne("1 254", "255");
        minusOne("1 255", "128.128");
        minusOne("2 254 128", "255.128");
        minusOne("2 255 128", "0.129");
        minusOne("2 254 255", "255.255");
        minusOne("2 255 255", "0.128.128");
        minusOne("3 254 255 255", "255.255.255");
        minusOne("3 255 255 255", "0.0.128.128");
        minusOne("4 254 255 255 255", "255.255.255.255");
        plusOne("4 4 0 0 0", "5");
        plusOne("4 6 0 0 128", "133");
    }

    private static void pushed0() {
        check.sentence("0 as the empty one");
        check.spend("79", "139", "16 at 1 in 1 done 2: [e]");
        check.spend("81", "140", "16 at 1 in 1 done 2: [e]");
        check.spend("1 128", "143", "16 at 1 in 1 done 2: [e]");
        check.spend("4 0x4", "144", "16 at 1 in 1 done 2: [e]");
    }

    private static void pushedWith5Bytes() {
        check.sentence("this may have 5 bytes");
        plusOne("4 255 255 255 127", "0.0.0.128.0");
        minusOne("4 255 255 255 255", "0.0.0.128.128");
        check.spend("4 255 255 255 127", "118 147", "0 at -1 in 1 done 3: [254.255.255.255.0]");
        check.spend("4 255 255 255 255", "118 147", "0 at -1 in 1 done 3: [254.255.255.255.128]");
        check.spend("4 255 255 255 127", "139 130", "0 at -1 in 1 done 3: [5 0.0.0.128.0]");
    }

    // TRUE.

    private static void truth() {
        check.sentence("An item is TRUE if it has a byte that is not 0, other than a last byte 128.");
        String[] untrue = {"", "0", "128", "0 0", "0 128", "0 0 0 0", "0 0 0 0 0", "0x31 128", "0x32"};
        for (String item : untrue) {
            int length = Check.bytes(item).length;
            SpendScript x = Check.fed(Check.push(item), "");
            check.due("spend with <" + item + ">", x.spend(), 16);
            check.due("itemLength(0)", x.itemLength(0), length);
        }
        String[] isTrue = {"17", "127", "130", "255", "128 0", "128 128", "0 1", "0 129", "1 0", "1 128", "0 64 0",
            "0x31 1", "0x30 128 0", "0x31 127", "0x31 129", "1 0x31"};
        for (String item : isTrue) {
            check.due("spend with <" + item + ">", Check.fed(Check.push(item), "").spend(), 0);
        }
    }

    // DIGEST.

    private static void digest() {
        check.sentence("The DIGEST of an item is 4 bytes, the lowest first, of h, where h is 17 at first and for each "
            + "byte b (0 .. 255) from the first on becomes h * 31 + b (32 bits, wrapping).");
        digestIs("0", "17.0.0.0");
        digestIs("1 0", "15.2.0.0");
        digestIs("1 255", "14.3.0.0");
        digestIs("2 20 21", "82.66.0.0");
        digestIs("2 21 20", "112.66.0.0");
        // The h of five bytes 255 is 730043342 and has not wrapped; that of six has.
        digestIs("5 255x5", "206.147.131.43");
        digestIs("6 255x6", "241.230.238.68");
        digestIs("6 48 3 2 1 7 1", "253.192.93.213");
        digestIs("32 255x32", "17.58.253.8");
    }

    private static void digestIs(String push, String want) {
        check.spend(push, "169", "0 at -1 in 1 done 2: [" + want + "]");
    }

    // From "A script is RUN byte by byte" to "In script 0 ..".

    private static void pushes() {
        anEmptyScriptIsRun();
        pushOfTheEmptyItem();
        pushOf1To32Bytes();
        notSoManyBytes();
        notTheShortestPush();
        minus1And1To16();
        otherBytesAreBad();
        pushesAreNoOperations();
        operationsInScript0();
    }

    private static void anEmptyScriptIsRun() {
        check.sentence("A script is RUN byte by byte.");
        check.spend("", "", "16 at 0 in 1 done 0: []");
        check.spend("", "81", "0 at -1 in 1 done 1: [1]");
        check.spend("81", "", "0 at -1 in 1 done 1: [1]");
    }

    private static void pushOfTheEmptyItem() {
        check.sentence("0 pushes the empty item");
        check.spend("0", "", "16 at 0 in 1 done 1: [e]");
        check.spend("81 0", "0 81", "0 at -1 in 1 done 4: [1 e e 1]");
    }

    private static void pushOf1To32Bytes() {
        check.sentence("c from 1 to 32 the c bytes behind it");
        for (int c = 1; c <= 32; c++) {
            String item = "200" + ".200".repeat(c - 1);
            check.spend(c + " 200x" + c, "", "0 at -1 in 1 done 1: [" + item + "]");
            check.spend(c + " 200x" + c + " 81", "", "0 at -1 in 1 done 2: [1 " + item + "]");
        }
    }

    private static void notSoManyBytes() {
        check.sentence("3 if there are not so many");
        for (int c = 1; c <= 32; c++) {
            check.spend("81 " + c + " 200x" + (c - 1), "", "3 at 1 in 0 done 1: [1]");
            check.spend("81", c + " 200x" + (c - 1), "3 at 0 in 1 done 1: [1]");
        }
        check.spend("81 32", "", "3 at 1 in 0 done 1: [1]");
        // Script 1 lends no bytes to script 0.
        check.spend("81 2 200", "200", "3 at 1 in 0 done 1: [1]");
    }

    private static void notTheShortestPush() {
        check.sentence("5 if c is 1 and the byte is 129 or 1 .. 16");
        for (int b : new int[] {1, 2, 15, 16, 129}) {
            check.spend("81 1 " + b, "", "5 at 1 in 0 done 1: [1]");
        }
        for (int b : new int[] {17, 81, 127, 130, 145, 255}) {
            check.spend("81 1 " + b, "", "0 at -1 in 1 done 2: [" + b + " 1]");
        }
        check.spend("81 1 0", "", "16 at 0 in 1 done 2: [0 1]");
        check.spend("81 1 128", "", "16 at 0 in 1 done 2: [128 1]");
        check.spend("2 1 0", "", "0 at -1 in 1 done 1: [1.0]");
        check.spend("2 129 16", "", "0 at -1 in 1 done 1: [129.16]");
        check.spend("81 1", "", "3 at 1 in 0 done 1: [1]");
    }

    private static void minus1And1To16() {
        check.sentence("79 the number -1; 81 .. 96 the numbers 1 .. 16");
        check.spend("79", "", "0 at -1 in 1 done 1: [129]");
        for (int b = 81; b <= 96; b++) {
            check.spend(b + "", "", "0 at -1 in 1 done 1: [" + (b - 80) + "]");
        }
    }

    private static void otherBytesAreBad() {
        check.sentence("other bytes up to 96 are bad (2)");
        for (int b = 33; b <= 80; b++) {
            if (b != 79) {
                check.spend("81 " + b, "", "2 at 1 in 0 done 1: [1]");
                check.spend("81", b + "", "2 at 0 in 1 done 1: [1]");
                check.spend("81 1 " + b, Check.lock(b + ""), "2 at 0 in 2 done 5: [1]");
            }
        }
    }

    private static void pushesAreNoOperations() {
        check.sentence("These are PUSHES.");
        check.spend("82", "81x29", "0 at -1 in 1 done 30: [" + ones(29) + " 2]");
        check.spend("82", "97x25 0 79 81 96 2 7 7", "0 at -1 in 1 done 31: [7.7 16 1 129 e 2]");
    }

    private static void operationsInScript0() {
        check.sentence("In script 0 a byte from 97 on is fault 15.");
        check.spend("82 96", "", "0 at -1 in 1 done 2: [16 2]");
        for (int b = 97; b <= 255; b++) {
            check.spend("82 81 " + b, "", "15 at 2 in 0 done 2: [1 2]");
        }
        check.spend("2 97 255", "", "0 at -1 in 1 done 1: [97.255]");
    }

    // OPERATIONS: which there are, how many, and when they are done.

    private static void operationsMet() {
        noneOfThoseBelow();
        thoseBelow();
        atMost25InAScript();
        passedOver();
        passedOverWithFaults();
    }

    private static void noneOfThoseBelow() {
        check.sentence("2 if it is none of those below");
        String none = "98 101 102 111 112 113 114 126 127 128 129 131 132 133 134 137 138 141 142 149 150 151 152 153 "
            + "166 167 168 170 171";
        for (int b : Check.bytes(none)) {
            noOperation(b);
        }
        for (int b = 175; b <= 255; b++) {
            noOperation(b);
        }
    }

    private static void noOperation(int b) {
        check.spend("81x5", b + "", "2 at 0 in 1 done 5: [1 1 1 1 1]");
        check.spend("81 2 " + b + " 97", Check.lock(b + " 97"), "2 at 0 in 2 done 5: [1]");
    }

    private static void thoseBelow() {
        check.sentence("In the others it is an OPERATION");
        String some = "97 105 107 109 110 115 116 117 118 119 120 121 122 123 124 125 130 135 136 139 140 143 144 145 "
            + "146 147 148 154 155 156 157 158 159 160 161 162 163 164 165 169 172";
        for (int b : Check.bytes(some)) {
            SpendScript x = Check.fed("81x5", b + " 81");
            check.due("spend with " + b, x.spend(), 0);
            check.due("done with " + b, x.done(), 7);
            SpendScript y = Check.fed("81x5 2 " + b + " 81", Check.lock(b + " 81"));
            check.due("spend with " + b + " in script 2", y.spend(), 0);
            check.due("done with " + b + " in script 2", y.done(), 11);
        }
    }

    private static void atMost25InAScript() {
        check.sentence("else 6 if 25 were met in this script before");
        check.spend("82", "97x25", "0 at -1 in 1 done 26: [2]");
        check.spend("82", "97x26", "6 at 25 in 1 done 26: [2]");
        check.spend("82", "97x25 81 97", "6 at 26 in 1 done 27: [1 2]");
        check.spend("82", "97x25 98", "2 at 25 in 1 done 26: [2]");
        check.spend("82 25 97x25", Check.lock("97x25"), "0 at -1 in 2 done 30: [2]");
        check.spend("82 26 97x26", Check.lock("97x26"), "6 at 25 in 2 done 30: [2]");
        for (int b : new int[] {99, 100, 103, 104, 106, 108, 173, 174}) {
            check.spend("82", "97x25 " + b, "6 at 25 in 1 done 26: [2]");
        }
        // Branches, and what is passed over, are met too.
        check.spend("82 0", "99 103x22 97 104", "0 at -1 in 1 done 26: [2]");
        check.spend("82 0", "99 103x22 97 97 104", "6 at 25 in 1 done 25: [2]");
        check.spend("82 0", "99 97x23 104", "0 at -1 in 1 done 4: [2]");
        check.spend("82 0", "99 97x24 104", "6 at 25 in 1 done 3: [2]");
        check.spend("82 0", "99 97x25", "6 at 25 in 1 done 3: [2]");
    }

    private static void passedOver() {
        check.sentence("the others, and pushes, are DONE only if all open branches are active, else passed over");
        check.spend("82 81", "99 83 97 104", "0 at -1 in 1 done 6: [3 2]");
        check.spend("82 0", "99 83 97 104", "0 at -1 in 1 done 4: [2]");
        // Of two open branches either is enough.
        check.spend("82 0 81", "99 99 83 104 104", "0 at -1 in 1 done 7: [2]");
        check.spend("82 0", "99 99 103 83 104 104", "0 at -1 in 1 done 7: [2]");
        check.spend("82 0", "99 99 103 106 104 104", "0 at -1 in 1 done 7: [2]");
        check.spend("82 0", "99 105 106 107 108 117 119 121 123 139 147 165 136 173 174 104",
            "0 at -1 in 1 done 4: [2]");
        check.spend("81x30", "117 0 99 81 81 118 104", "0 at -1 in 1 done 34: [" + ones(29) + "]");
        check.spend("82 0", "99 2 104 104 104", "0 at -1 in 1 done 4: [2]");
    }

    private static void passedOverWithFaults() {
        check.sentence("with the faults 2, 3, 5, 6 all the same");
        check.spend("82 0", "99 33 104", "2 at 1 in 1 done 3: [2]");
        check.spend("82 0", "99 80 104", "2 at 1 in 1 done 3: [2]");
        check.spend("82 0", "99 98 104", "2 at 1 in 1 done 3: [2]");
        check.spend("82 0", "99 255 104", "2 at 1 in 1 done 3: [2]");
        check.spend("82 0", "99 2 104", "3 at 1 in 1 done 3: [2]");
        check.spend("82 0", "99 1", "3 at 1 in 1 done 3: [2]");
        check.spend("82 0", "99 1 16 104", "5 at 1 in 1 done 3: [2]");
        check.spend("82 0", "99 1 129 104", "5 at 1 in 1 done 3: [2]");
        check.spend("82 0", "99 1 17 104", "0 at -1 in 1 done 4: [2]");
        check.spend("82 0", "99 97x24 97", "6 at 25 in 1 done 3: [2]");
    }

    // 99, 100, 103 and 104.

    private static void branches() {
        atMost8Branches();
        openedByX();
        openedInsideOneNotActive();
        turned();
        closed();
        noneIsOpen();
        openAtTheEnd();
    }

    private static void atMost8Branches() {
        check.sentence("99 and 100: 8 if 8 branches are open.");
        check.spend("82 81x8", "99x8 104x8", "0 at -1 in 1 done 25: [2]");
        check.spend("82 81x9", "99x9", "8 at 8 in 1 done 18: [1 2]");
        check.spend("82 81x9", "99x8 100", "8 at 8 in 1 done 18: [1 2]");
        check.spend("82 0x8", "100x8 104x8", "0 at -1 in 1 done 25: [2]");
        check.spend("82 0x9", "100x9", "8 at 8 in 1 done 18: [e 2]");
        check.spend("82 0", "99x8 104x8", "0 at -1 in 1 done 18: [2]");
        check.spend("82 0", "99x9", "8 at 8 in 1 done 10: [2]");
        check.spend("82 0", "100 103 100x7 100", "8 at 9 in 1 done 11: [2]");
        // 8 comes before what x would be looked at for.
        check.spend("81x8", "99x9", "8 at 8 in 1 done 16: []");
        // One that is closed leaves its place.
        check.spend("82 81x9", "99x8 104 99 104x8", "0 at -1 in 1 done 28: [2]");
    }

    private static void openedByX() {
        check.sentence("If all open ones are active, x is taken, and a branch is opened that is active if x is true "
            + "(100: if it is not)");
        check.spend("", "99 104", "11 at 0 in 1 done 0: []");
        check.spend("", "100 104", "11 at 0 in 1 done 0: []");
        check.spend("81", "99 99 104 104", "11 at 1 in 1 done 2: []");
        check.spend("84 81", "99 82 103 83 104", "0 at -1 in 1 done 6: [2 4]");
        check.spend("84 81", "100 82 103 83 104", "0 at -1 in 1 done 6: [3 4]");
        for (String untrue : new String[] {"0", "1 0", "1 128", "2 0 128"}) {
            check.spend("84 " + untrue, "99 82 103 83 104", "0 at -1 in 1 done 6: [3 4]");
            check.spend("84 " + untrue, "100 82 103 83 104", "0 at -1 in 1 done 6: [2 4]");
        }
        // x may be longer than a number.
        check.spend("84 5 0 0 0 0 1", "99 82 103 83 104", "0 at -1 in 1 done 6: [2 4]");
    }

    private static void openedInsideOneNotActive() {
        check.sentence("else a branch is opened that is not active");
        check.spend("84 0", "99 99 82 104 103 83 104", "0 at -1 in 1 done 8: [3 4]");
        check.spend("84 0", "99 100 82 104 103 83 104", "0 at -1 in 1 done 8: [3 4]");
        check.spend("0", "99 99 104 104 81", "0 at -1 in 1 done 6: [1]");
        // Whatever 103 makes of it, the one around it is not active.
        check.spend("84 0", "99 99 103 82 104 104", "0 at -1 in 1 done 7: [4]");
        check.spend("84 0", "99 100 103 82 104 104", "0 at -1 in 1 done 7: [4]");
    }

    private static void turned() {
        check.sentence("103: the branch opened last becomes active if it was not, else not active");
        check.spend("84 0", "99 82 103 83 103 85 103 86 104", "0 at -1 in 1 done 9: [6 3 4]");
        check.spend("84 81", "99 82 103 83 103 85 103 86 104", "0 at -1 in 1 done 9: [5 2 4]");
        check.spend("84 81 81", "99 99 103 82 104 83 104", "0 at -1 in 1 done 9: [3 4]");
    }

    private static void closed() {
        check.sentence("104: it is closed");
        check.spend("84 0", "99 82 104 83", "0 at -1 in 1 done 5: [3 4]");
        check.spend("84 0 81", "99 99 82 104 83 104", "0 at -1 in 1 done 8: [3 4]");
        check.spend("84 0", "99 99 104 83 104", "0 at -1 in 1 done 6: [4]");
    }

    private static void noneIsOpen() {
        check.sentence("7 for both if none is open");
        check.spend("82", "103", "7 at 0 in 1 done 1: [2]");
        check.spend("82", "104", "7 at 0 in 1 done 1: [2]");
        check.spend("82 81", "99 104 103", "7 at 2 in 1 done 4: [2]");
        check.spend("82 81", "99 104 104", "7 at 2 in 1 done 4: [2]");
        check.spend("82 1 103", Check.lock("103"), "7 at 0 in 2 done 5: [2]");
        check.spend("82 1 104", Check.lock("104"), "7 at 0 in 2 done 5: [2]");
    }

    private static void openAtTheEnd() {
        check.sentence("At a script's end: 7 if a branch is open.");
        check.spend("82 81", "99", "7 at 1 in 1 done 3: [2]");
        check.spend("82 0", "100", "7 at 1 in 1 done 3: [2]");
        check.spend("82 0", "99", "7 at 1 in 1 done 3: [2]");
        check.spend("82 81 81", "99 99 104", "7 at 3 in 1 done 6: [2]");
        check.spend("82 0", "99 103 2 7 7", "7 at 5 in 1 done 5: [7.7 2]");
        check.spend("82 81 1 99", Check.lock("99"), "7 at 1 in 2 done 7: [2]");
        // It comes before 16.
        check.spend("0 81", "99", "7 at 1 in 1 done 3: [e]");
        check.spend("81", "99", "7 at 1 in 1 done 2: []");
    }

    // From "Items are looked at from the top downwards" to "nothing of the push or operation is done".

    private static void faultsInTheirOrder() {
        oneIsNotThere();
        numbersOneByOne();
        theItemNLast();
        countsOneByOne();
        behindAllThat9();
        behindThat14();
        nothingIsDone();
    }

    private static void oneIsNotThere() {
        check.sentence("11 if one is not there");
        String needOne = "99 100 105 107 115 117 118 121 122 130 139 140 143 144 145 146 169 174";
        String needTwo = "109 110 119 120 124 125 135 136 147 148 154 155 156 157 158 159 160 161 162 163 164 172 173";
        String needThree = "123 165";
        for (int b : Check.bytes(needOne + " " + needTwo + " " + needThree)) {
            check.spend("", b + "", "11 at 0 in 1 done 0: []");
        }
        for (int b : Check.bytes(needTwo + " " + needThree)) {
            check.spend("82", b + "", "11 at 0 in 1 done 1: [2]");
            // What lies on the second stack is not there.
            check.spend("82 82 82", "107 107 " + b, "11 at 2 in 1 done 5: [2]");
        }
        for (int b : Check.bytes(needThree)) {
            check.spend("83 82", b + "", "11 at 0 in 1 done 2: [2 3]");
        }
        for (int b : Check.bytes("97 116")) {
            check.spend("", b + " 81", b == 97 ? "0 at -1 in 1 done 2: [1]" : "0 at -1 in 1 done 2: [1 e]");
        }
    }

    private static void numbersOneByOne() {
        check.sentence("if it is taken as a number, 12 if it has more than 4 bytes, then 13; then comes the next one");
        String tooLong = "5 7x5";
        for (int b : Check.bytes("147 148 154 155 156 157 158 159 160 161 162 163 164 165")) {
            // y is not there, but x is looked at before it.
            check.spend(tooLong, b + "", "12 at 0 in 1 done 1: [7.7.7.7.7]");
            check.spend("81 " + tooLong, b + "", "12 at 0 in 1 done 2: [7.7.7.7.7 1]");
            check.spend(tooLong + " 81", b + "", "12 at 0 in 1 done 2: [1 7.7.7.7.7]");
        }
        check.spend("81 81 " + tooLong, "165", "12 at 0 in 1 done 3: [7.7.7.7.7 1 1]");
        check.spend("81 " + tooLong + " 81", "165", "12 at 0 in 1 done 3: [1 7.7.7.7.7 1]");
        check.spend(tooLong + " 81 81", "165", "12 at 0 in 1 done 3: [1 1 7.7.7.7.7]");
        // z is not there, but y is looked at before it.
        check.spend(tooLong + " 81", "165", "12 at 0 in 1 done 2: [1 7.7.7.7.7]");
    }

    private static void theItemNLast() {
        check.sentence("in 121 and 122 the item n last");
        for (int b = 121; b <= 122; b++) {
            check.spend("5 255x5", b + "", "12 at 0 in 1 done 1: [255.255.255.255.255]");
            check.spend("79", b + "", "13 at 0 in 1 done 1: [129]");
            check.spend("81", b + "", "11 at 0 in 1 done 1: [1]");
            check.spend("82 81", b + "", "11 at 0 in 1 done 2: [1 2]");
        }
    }

    private static void countsOneByOne() {
        check.sentence("12 if it has more than 4 bytes, then 13; then comes the next one, in 174");
        check.spend("5 255x5", "174", "12 at 0 in 1 done 1: [255.255.255.255.255]");
        check.spend("85", "174", "13 at 0 in 1 done 1: [5]");
        // A key that is not there, before the number of signatures is looked at.
        check.spend("5 255x5 82", "174", "11 at 0 in 1 done 2: [2 255.255.255.255.255]");
        check.spend("79 82", "174", "11 at 0 in 1 done 2: [2 129]");
        // The number of signatures, before a signature that is not there.
        check.spend("5 255x5 96 81", "174", "12 at 0 in 1 done 3: [1 16 255.255.255.255.255]");
        check.spend("82 96 81", "174", "13 at 0 in 1 done 3: [1 16 2]");
        check.spend("81 96 81", "174", "11 at 0 in 1 done 3: [1 16 1]");
    }

    private static void behindAllThat9() {
        check.sentence("Behind all that 9");
        check.spend("5 7x5", "157", "12 at 0 in 1 done 1: [7.7.7.7.7]");
        check.spend("5 7x5 81", "157", "12 at 0 in 1 done 2: [1 7.7.7.7.7]");
        check.spend("81", "157", "11 at 0 in 1 done 1: [1]");
        check.spend("81", "136", "11 at 0 in 1 done 1: [1]");
        check.spend("81", "173", "11 at 0 in 1 done 1: [1]");
        check.spend("", "105", "11 at 0 in 1 done 0: []");
        check.spend("82 81", "157", "9 at 0 in 1 done 2: [1 2]");
        check.spend("82 81", "136", "9 at 0 in 1 done 2: [1 2]");
        check.spend("82 81", "173", "9 at 0 in 1 done 2: [1 2]");
        check.spend("82 0", "105", "9 at 0 in 1 done 2: [e 2]");
        // With all 30 items too.
        check.spend("81x29 0", "105", "9 at 0 in 1 done 30: [e " + ones(29) + "]");
        check.spend("81x29 82", "136", "9 at 0 in 1 done 30: [2 " + ones(29) + "]");
        check.spend("81x29 82", "157", "9 at 0 in 1 done 30: [2 " + ones(29) + "]");
    }

    private static void behindThat14() {
        check.sentence("behind that 14 if there would be more than 30 items");
        for (int b : Check.bytes("115 116 118 120 125 130")) {
            check.spend("81x30", b + "", "14 at 0 in 1 done 30: [" + ones(30) + "]");
            check.spend("81x30", "107 " + b, "14 at 1 in 1 done 31: [" + ones(29) + "]");
            SpendScript x = Check.fed("81x29", b + "");
            check.due("spend with 29 items and " + b, x.spend(), 0);
            check.due("items with 29 items and " + b, x.items(), 30);
        }
        check.spend("81x30", "110", "14 at 0 in 1 done 30: [" + ones(30) + "]");
        check.spend("81x29", "110", "14 at 0 in 1 done 29: [" + ones(29) + "]");
        check.spend("81x28", "110", "0 at -1 in 1 done 29: [" + ones(30) + "]");
        check.spend("81x29", "107 110", "14 at 1 in 1 done 30: [" + ones(28) + "]");
        check.spend("81x28", "107 110", "0 at -1 in 1 done 30: [" + ones(29) + "]");
        // What takes as many items as it pushes, or more, has room.
        for (int b : Check.bytes("97 107 121 122 123 124 135 139 147 156 165 169 172")) {
            check.due("spend with 30 items and " + b, Check.fed("81x30", b + " 117").spend(), 0);
        }
        check.due("spend with 30 items and 174", Check.fed("81x30", "174").spend(), 16);
    }

    private static void nothingIsDone() {
        check.sentence("With a fault nothing of the push or operation is done.");
        check.spend("82", "3 7 7", "3 at 0 in 1 done 1: [2]");
        check.spend("82", "1 16", "5 at 0 in 1 done 1: [2]");
        check.spend("81x30", "82", "14 at 0 in 1 done 30: [" + ones(30) + "]");
        check.spend("82", "106", "10 at 0 in 1 done 1: [2]");
        check.spend("82", "147", "11 at 0 in 1 done 1: [2]");
        check.spend("5 7x5 82", "147", "12 at 0 in 1 done 2: [2 7.7.7.7.7]");
        check.spend("82 79", "122", "13 at 0 in 1 done 2: [129 2]");
        check.spend("82 83", "157", "9 at 0 in 1 done 2: [3 2]");
        check.spend("81x29", "110", "14 at 0 in 1 done 29: [" + ones(29) + "]");
        check.spend("83 82 81 82", "174", "13 at 0 in 1 done 4: [2 1 2 3]");
    }

    // VALID and WELL FORMED.

    private static void signatures() {
        pairInTheTable();
        lengthsFrom6To32();
        lengthOutOf6To32();
        headOfASignature();
        firstByteOfTheMiddle();
        secondByteOfTheMiddle();
        anyByteBehind();
    }

    private static void pairInTheTable() {
        check.sentence("A signature is VALID for a key if it is well formed and a pair of its h and the key's h is in "
            + "the table.");
        String both = Check.push(SIGNATURE) + " " + Check.push(KEY);
        check.spend(both, "172", "16 at 1 in 1 done 3: [e]");
        check.spend(both, "172", "0 at -1 in 1 done 3: [1]", SIGNATURE, KEY);
        check.spend(both, "172", "16 at 1 in 1 done 3: [e]", KEY, SIGNATURE);
        // Each is there, but not as a pair.
        check.spend(both, "172", "16 at 1 in 1 done 3: [e]", SIGNATURE, "20", "20", KEY);
        // It may be the first of eight, or the last.
        String[] last = new String[16];
        java.util.Arrays.fill(last, "7");
        last[14] = SIGNATURE;
        last[15] = KEY;
        check.spend(both, "172", "0 at -1 in 1 done 3: [1]", last);
        String[] first = new String[16];
        java.util.Arrays.fill(first, "7");
        first[0] = SIGNATURE;
        first[1] = KEY;
        check.spend(both, "172", "0 at -1 in 1 done 3: [1]", first);
        // A key is any item, from the empty one to the longest.
        check.spend(Check.push(SIGNATURE) + " 0", "172", "0 at -1 in 1 done 3: [1]", SIGNATURE, "");
        check.spend(Check.push(SIGNATURE) + " 32 255x32", "172", "0 at -1 in 1 done 3: [1]", SIGNATURE, "255x32");
        // Only the h counts: 20 21 and 19 52 have the same.
        check.spend(Check.push(SIGNATURE) + " 2 19 52", "172", "0 at -1 in 1 done 3: [1]", SIGNATURE, KEY);
    }

    /** With the pair in the table, so that all hangs on the signature's form. */
    private static void formed(String signature, boolean well) {
        String want = well ? "0 at -1 in 1 done 3: [1]" : "16 at 1 in 1 done 3: [e]";
        check.spend(Check.push(signature) + " " + Check.push(KEY), "172", want, signature, KEY);
    }

    /** 48, n - 3, 2, n - 5, and behind it what fills it up to n bytes. */
    private static String signature(int n, String begin) {
        int rest = n - 4 - Check.bytes(begin).length;
        return "48 " + (n - 3) + " 2 " + (n - 5) + " " + begin + (rest > 0 ? " 9x" + rest : "");
    }

    private static void lengthsFrom6To32() {
        check.sentence("WELL FORMED is an item of n bytes, n from 6 to 32");
        for (int n = 6; n <= 32; n++) {
            formed(signature(n, "1"), true);
        }
    }

    private static void lengthOutOf6To32() {
        check.sentence("WELL FORMED is an item of n bytes, n from 6: not less");
        formed("", false);
        formed("48", false);
        formed("48 255", false);
        formed("48 0 2", false);
        formed("48 1 2 255", false);
        formed("48 2 2 0 1", false);
    }

    private static void headOfASignature() {
        check.sentence("that are: 48, n - 3, 2, n - 5");
        for (int n : new int[] {6, 7, 20, 31, 32}) {
            String rest = " 1 9x" + (n - 5);
            formed("48 " + (n - 3) + " 2 " + (n - 5) + rest, true);
            formed("47 " + (n - 3) + " 2 " + (n - 5) + rest, false);
            formed("49 " + (n - 3) + " 2 " + (n - 5) + rest, false);
            formed("48 " + (n - 4) + " 2 " + (n - 5) + rest, false);
            formed("48 " + (n - 2) + " 2 " + (n - 5) + rest, false);
            formed("48 " + (n - 3) + " 1 " + (n - 5) + rest, false);
            formed("48 " + (n - 3) + " 3 " + (n - 5) + rest, false);
            formed("48 " + (n - 3) + " 2 " + (n - 6) + rest, false);
            formed("48 " + (n - 3) + " 2 " + (n - 4) + rest, false);
        }
    }

    private static void firstByteOfTheMiddle() {
        check.sentence("then n - 5 bytes of which the first is 1 .. 127");
        for (int n : new int[] {6, 7, 32}) {
            formed(signature(n, "0"), false);
            formed(signature(n, "1"), true);
            formed(signature(n, "127"), true);
            formed(signature(n, "128"), false);
            formed(signature(n, "255"), false);
        }
    }

    private static void secondByteOfTheMiddle() {
        check.sentence("or is 0 and there is a second from 128 on");
        for (int n : new int[] {7, 8, 32}) {
            formed(signature(n, "0 0"), false);
            formed(signature(n, "0 127"), false);
            formed(signature(n, "0 128"), true);
            formed(signature(n, "0 255"), true);
        }
        // The byte behind the n - 5 is no second one.
        formed(signature(6, "0 128"), false);
        formed(signature(6, "0 255"), false);
    }

    private static void anyByteBehind() {
        check.sentence("then any byte");
        for (int b : new int[] {0, 1, 127, 128, 255}) {
            formed("48 3 2 1 7 " + b, true);
            formed("48 4 2 2 0 128 " + b, true);
        }
    }

    // SPENDING.

    private static void spending() {
        stacksAreEmptyAtFirst();
        thenTheTopIsLookedAt();
        theFormOfSevenBytes();
        notTheFormOfSevenBytes();
        onlyWithoutAFault();
        theStackBecomesAgain();
        script2IsRunOnTheRest();
        then16AsBefore();
        secondStackIsMadeEmpty();
        theFirstFaultEnds();
    }

    private static void stacksAreEmptyAtFirst() {
        check.sentence("SPENDING: stacks are empty.");
        SpendScript x = Check.fed("81x30", "107");
        check.due("spend", x.spend(), 0);
        check.due("the same again", x.spend(), 0);
        Check.feedAnew(x, "", "");
        check.due("spend with no scripts", x.spend(), 16);
        check.due("behind it", Check.outcome(x), "16 at 0 in 1 done 0: []");
        Check.feedAnew(x, "81x30", "");
        check.due("spend with 30 items", x.spend(), 0);
        Check.feedAnew(x, "82", "108");
        check.due("spend with nothing on the second stack", x.spend(), 11);
        check.due("behind it", Check.outcome(x), "11 at 0 in 1 done 1: [2]");
    }

    private static void thenTheTopIsLookedAt() {
        check.sentence("Script 0 is run; then script 1, on the stack as it is; then 16 if the stack is empty or its top "
            + "is not true.");
        check.spend("", "", "16 at 0 in 1 done 0: []");
        check.spend("81", "117", "16 at 1 in 1 done 2: []");
        check.spend("81 0", "", "16 at 0 in 1 done 2: [e 1]");
        check.spend("81 1 128", "97", "16 at 1 in 1 done 3: [128 1]");
        check.spend("0 81", "", "0 at -1 in 1 done 2: [1 e]");
        // The stack is not looked at between script 0 and script 1.
        check.spend("0", "81", "0 at -1 in 1 done 2: [1 e]");
        check.spend("", "81", "0 at -1 in 1 done 1: [1]");
        // What lies on the second stack is not on the stack.
        check.spend("81", "107", "16 at 1 in 1 done 2: []");
    }

    private static void theFormOfSevenBytes() {
        check.sentence("If script 1 is the seven bytes 169, 4, any four, 135");
        for (String script : new String[] {"97", "", "81 117", "97 97 97 97", "110"}) {
            check.due("spend by digest of <" + script + ">",
                endOf("81 81 " + Check.push(script), Check.lock(script)), "0 in 2");
        }
        // One of the four bytes is a little off: script 1 has its answer 0 then, and script 2 is not run.
        String h = Check.digest("97 97").replace('.', ' ');
        check.due("the four bytes", h, "241 75 0 0");
        check.due("spend", endOf("81 2 97 97", "169 4 " + h + " 135"), "0 in 2");
        for (String other : new String[] {"242 75 0 0", "241 76 0 0", "241 75 1 0", "241 75 0 1"}) {
            check.due("spend", endOf("81 2 97 97", "169 4 " + other + " 135"), "16 in 1");
        }
    }

    private static String endOf(String unlocking, String locking) {
        SpendScript x = Check.fed(unlocking, locking);
        return x.spend() + " in " + x.ended();
    }

    private static void notTheFormOfSevenBytes() {
        check.sentence("If script 1 is the seven bytes 169, 4, any four, 135: no others");
        String h = Check.digest("97").replace('.', ' ');
        String script = "81 1 97";
        check.due("the form", endOf(script, "169 4 " + h + " 135"), "0 in 2");
        check.due("a byte more behind", endOf(script, "169 4 " + h + " 135 97"), "0 in 1");
        check.due("a byte more before", endOf(script, "97 169 4 " + h + " 135"), "0 in 1");
        check.due("a byte less behind", endOf(script, "169 4 " + h), "0 in 1");
        check.due("a byte less before", endOf("81 4 " + h, "4 " + h + " 135"), "0 in 1");
        check.due("another first byte", endOf("81 4 " + h, "118 4 " + h + " 135"), "0 in 1");
        check.due("another second byte", endOf("81 82", "169 5 " + h + " 135"), "0 in 1");
        check.due("a shorter push", endOf(script, "169 3 9 9 9 96 135"), "16 in 1");
        check.due("another last byte", endOf(script, "169 4 " + h + " 136"), "0 in 1");
        check.due("the form made in script 2", endOf("81 1 97 7 169 4 " + h + " 135",
            Check.lock("169 4 " + h + " 135")), "0 in 2");
        check.spend("81 1 106 7 " + Check.lock("106"), Check.lock(Check.lock("106")), "0 at -1 in 2 done 9: [1 1]");
    }

    private static void onlyWithoutAFault() {
        check.sentence("and there was no fault so far");
        check.spend("", Check.lock("97"), "11 at 0 in 1 done 0: []");
        check.spend("81 1 97", Check.lock("98"), "16 at 7 in 1 done 5: [e 1]");
        check.spend("81 98", Check.lock("97"), "15 at 1 in 0 done 1: [1]");
        check.spend("81x29 1 97", Check.lock("97"),
            "14 at 1 in 1 done 31: [" + Check.digest("97") + " " + ones(29) + "]");
        check.spend("81x28 1 97", Check.lock("97"), "0 at -1 in 2 done 33: [" + ones(28) + "]");
    }

    private static void theStackBecomesAgain() {
        check.sentence("the stack becomes again what script 0 left, its top is taken and is script 2");
        check.spend("84 83 82 0", Check.lock(""), "0 at -1 in 2 done 7: [2 3 4]");
        check.spend("0 32 7x32 81 0", Check.lock(""), "0 at -1 in 2 done 7: [1 7" + ".7".repeat(31) + " e]");
        check.spend("81 1 97", Check.lock("97"), "0 at -1 in 2 done 6: [1]");
        check.spend("81x28 32 97x25 97x7", Check.lock("97x32"), "6 at 25 in 2 done 57: [" + ones(28) + "]");
    }

    private static void script2IsRunOnTheRest() {
        check.sentence("the second stack is empty; script 2 is run on the rest");
        check.spend("82 2 108 81", Check.lock("108 81"), "11 at 0 in 2 done 5: [2]");
        check.spend("1 117", Check.lock("117"), "11 at 0 in 2 done 4: []");
        check.spend("82 83 3 107 117 108", Check.lock("107 117 108"), "0 at -1 in 2 done 9: [3]");
        // All 30 places are free for it.
        check.spend("81 30 81x30", Check.lock("81x30"), "14 at 29 in 2 done 34: [" + ones(30) + "]");
        check.spend("30 81x30", Check.lock("81x30"), "0 at -1 in 2 done 34: [" + ones(30) + "]");
        // Branches and the operations met begin anew.
        check.spend("82 81 27 99 97x23 104 81 81", Check.lock("99 97x23 104 81 81"),
            "0 at -1 in 2 done 33: [1 1 2]");
    }

    private static void then16AsBefore() {
        check.sentence("then 16 as before");
        check.spend("0", Check.lock(""), "16 at 0 in 2 done 4: []");
        check.spend("0 0", Check.lock(""), "16 at 0 in 2 done 5: [e]");
        check.spend("1 128 1 97", Check.lock("97"), "16 at 1 in 2 done 6: [128]");
        check.spend("81 2 97 117", Check.lock("97 117"), "16 at 2 in 2 done 7: []");
        check.spend("81 2 97 97", Check.lock("97 97"), "0 at -1 in 2 done 7: [1]");
    }

    private static void secondStackIsMadeEmpty() {
        check.sentence("Before each script the second stack is made empty.");
        SpendScript x = Check.fed("82 81", "107");
        check.due("spend that leaves an item there", x.spend(), 0);
        Check.feedAnew(x, "81x30", "");
        check.due("spend: script 0 has all the room", x.spend(), 0);
        Check.feedAnew(x, "82 81", "107 106");
        check.due("spend that leaves an item there behind a fault", x.spend(), 10);
        Check.feedAnew(x, "82", "108");
        check.due("spend: script 1 finds nothing there", x.spend(), 11);
        Check.feedAnew(x, "82 82 1 107", Check.lock("107"));
        check.due("spend: script 2 leaves an item there", x.spend(), 0);
        Check.feedAnew(x, "82 1 108", Check.lock("108"));
        check.due("spend: script 2 finds nothing there", x.spend(), 11);
        check.due("behind it", Check.outcome(x), "11 at 0 in 2 done 5: [2]");
    }

    private static void theFirstFaultEnds() {
        check.sentence("The first fault ends it.");
        check.spend("81 33 34", "106", "2 at 1 in 0 done 1: [1]");
        check.spend("81", "106 33 81", "10 at 0 in 1 done 1: [1]");
        check.spend("0", "105 106", "9 at 0 in 1 done 1: [e]");
        check.spend("81 2 106 33", Check.lock("106 33"), "10 at 0 in 2 done 5: [1]");
        check.spend("0 0", "99", "7 at 1 in 1 done 3: [e]");
    }
}
