/** The rows of operations in the document's "Terms", one by one: what each says of its edges, from both sides. */
public final class OperationEdgeTest {
    private static final Check check = new Check();
    private static final String MOST = "4 255 255 255 127";
    private static final String LEAST = "4 255 255 255 255";
    private static final String S1 = "48 3 2 1 1 1";
    private static final String S2 = "48 3 2 1 2 1";
    private static final String S3 = "48 3 2 1 3 1";
    private static final String S4 = "48 3 2 1 4 1";
    private static final String K1 = "31 1";
    private static final String K2 = "32 2";
    private static final String K3 = "33 3";
    private static final String K4 = "34 4";
    private static final String[] PAIRS = {S1, K1, S2, K2, S3, K3, S4, K4};

    public static void main(String[] args) {
        firstRow();
        secondRow();
        thirdRow();
        numberRow();
        twoNumbersRow();
        within();
        signatureRow();
        severalSignaturesRow();
        check.finish();
    }

    private static String ones(int count) {
        return "1 ".repeat(count).trim();
    }

    /** One operation, and behind it a push of 1, so that the items alone are looked at. */
    private static void leaves(String unlocking, int b, String items) {
        SpendScript x = Check.fed(unlocking, b + " 81");
        check.due("spend of <" + unlocking + "> <" + b + " 81>", x.spend(), 0);
        check.due("items behind <" + unlocking + "> <" + b + " 81>", Check.items(x),
            items.isEmpty() ? "[1]" : "[1 " + items + "]");
    }

    private static void fault(int fault, String unlocking, int b, String items) {
        SpendScript x = Check.fed(unlocking, b + " 81");
        check.due("spend of <" + unlocking + "> <" + b + " 81>", x.spend(), fault);
        check.due("items behind <" + unlocking + "> <" + b + " 81>", Check.items(x), "[" + items + "]");
        check.due("faultAt", x.faultAt(), 0);
    }

    // 97 to 116.

    private static void firstRow() {
        nothing();
        verify();
        refuse();
        toTheSecondStack();
        fromTheSecondStack();
        twoTaken();
        twoAgain();
        againIfTrue();
        numberOfItems();
    }

    private static void nothing() {
        check.sentence("97 nothing");
        leaves("", 97, "");
        leaves("82 0", 97, "e 2");
        check.spend("81x30", "97", "0 at -1 in 1 done 31: [" + ones(30) + "]");
    }

    private static void verify() {
        check.sentence("105 x taken (9 if it is not true)");
        leaves("82 81", 105, "2");
        leaves("82 5 0 0 0 0 1", 105, "2");
        leaves("82 2 128 0", 105, "2");
        leaves("81", 105, "");
        fault(9, "82 0", 105, "e 2");
        fault(9, "82 1 0", 105, "0 2");
        fault(9, "82 1 128", 105, "128 2");
        fault(9, "82 3 0 0 128", 105, "0.0.128 2");
        fault(11, "", 105, "");
    }

    private static void refuse() {
        check.sentence("106 fault 10");
        fault(10, "", 106, "");
        fault(10, "82 81", 106, "1 2");
        fault(10, "81x30", 106, ones(30));
    }

    private static void toTheSecondStack() {
        check.sentence("107 x goes to the second stack");
        leaves("81", 107, "");
        leaves("83 82", 107, "3");
        fault(11, "", 107, "");
        check.spend("81x30", "107x25", "0 at -1 in 1 done 55: [" + ones(5) + "]");
        check.spend("82 81", "107 107 107", "11 at 2 in 1 done 4: []");
    }

    private static void fromTheSecondStack() {
        check.sentence("108 the top of the second stack goes to the stack (11 if there is none)");
        fault(11, "82", 108, "2");
        fault(11, "", 108, "");
        check.spend("83 82", "107 107 108", "0 at -1 in 1 done 5: [3]");
        check.spend("83 82", "107 107 108 108", "0 at -1 in 1 done 6: [2 3]");
        check.spend("83 82", "107 108 108", "11 at 2 in 1 done 4: [2 3]");
        check.spend("81x30", "107x12 108x12", "0 at -1 in 1 done 54: [" + ones(30) + "]");
        check.spend("32 7x32 0", "107 107 108 108 81", "0 at -1 in 1 done 7: [1 e 7" + ".7".repeat(31) + "]");
    }

    private static void twoTaken() {
        check.sentence("109 x, y taken");
        leaves("84 83 82", 109, "4");
        leaves("83 82", 109, "");
        fault(11, "82", 109, "2");
        fault(11, "", 109, "");
    }

    private static void twoAgain() {
        check.sentence("110 : y and then x again");
        leaves("84 83 82", 110, "2 3 2 3 4");
        leaves("83 82", 110, "2 3 2 3");
        fault(11, "82", 110, "2");
        check.spend("81x28", "110", "0 at -1 in 1 done 29: [" + ones(30) + "]");
        fault(14, "81x29", 110, ones(29));
        fault(14, "81x30", 110, ones(30));
    }

    private static void againIfTrue() {
        check.sentence("115 : x again, if it is true");
        leaves("82", 115, "2 2");
        leaves("82 79", 115, "129 129 2");
        leaves("82 0", 115, "e 2");
        leaves("82 1 128", 115, "128 2");
        leaves("82 2 128 0", 115, "128.0 128.0 2");
        fault(11, "", 115, "");
        fault(14, "81x30", 115, ones(30));
        check.spend("81x29 0", "115", "16 at 1 in 1 done 31: [e " + ones(29) + "]");
    }

    private static void numberOfItems() {
        check.sentence("116 : 'number of items of the stack'");
        leaves("", 116, "e");
        leaves("84", 116, "1 4");
        leaves("81x17", 116, "17 " + ones(17));
        check.spend("81x29", "116", "0 at -1 in 1 done 30: [29 " + ones(29) + "]");
        fault(14, "81x30", 116, ones(30));
        check.spend("84 84 84", "107 107 116", "0 at -1 in 1 done 6: [1 4]");
        check.spend("84", "107 116 81", "0 at -1 in 1 done 4: [1 e]");
    }

    // 117 to 125.

    private static void secondRow() {
        taken();
        again();
        takenFromBelow();
        theOneBelowAgain();
        theItemNAgain();
        theItemNTakenOut();
        positionOfTheItemN();
        zTakenOut();
        yTakenOut();
        copyBelow();
    }

    private static void taken() {
        check.sentence("117 x taken");
        leaves("83 82", 117, "3");
        leaves("82", 117, "");
        fault(11, "", 117, "");
    }

    private static void again() {
        check.sentence("118 : x again");
        leaves("83 82", 118, "2 2 3");
        leaves("0", 118, "e e");
        leaves("32 7x32", 118, "7" + ".7".repeat(31) + " 7" + ".7".repeat(31));
        fault(11, "", 118, "");
        fault(14, "81x30", 118, ones(30));
        check.spend("81x29", "118", "0 at -1 in 1 done 30: [" + ones(30) + "]");
    }

    private static void takenFromBelow() {
        check.sentence("119 y is taken out from below x");
        leaves("84 83 82", 119, "2 4");
        leaves("83 82", 119, "2");
        fault(11, "82", 119, "2");
        fault(11, "", 119, "");
    }

    private static void theOneBelowAgain() {
        check.sentence("120 : y again");
        leaves("84 83 82", 120, "3 2 3 4");
        leaves("83 82", 120, "3 2 3");
        fault(11, "82", 120, "2");
        fault(14, "81x30", 120, ones(30));
        check.spend("81x29", "120", "0 at -1 in 1 done 30: [" + ones(30) + "]");
    }

    private static void theItemNAgain() {
        check.sentence("121 x taken as a number n : again the item n below the top that is left");
        leaves("84 83 82 0", 121, "2 2 3 4");
        leaves("84 83 82 81", 121, "3 2 3 4");
        leaves("84 83 82 82", 121, "4 2 3 4");
        fault(11, "84 83 82 83", 121, "3 2 3 4");
        leaves("84 0", 121, "4 4");
        fault(11, "84 81", 121, "1 4");
        check.spend("85 84 81x27 1 28", "121", "0 at -1 in 1 done 31: [5 " + ones(27) + " 4 5]");
        check.spend("85 84 81x27 1 27", "121", "0 at -1 in 1 done 31: [4 " + ones(27) + " 4 5]");
        fault(11, "85 84 81x27 1 29", 121, "29 " + ones(27) + " 4 5");
    }

    private static void theItemNTakenOut() {
        check.sentence("122 the same, but that item is taken out from its place");
        leaves("84 83 82 0", 122, "2 3 4");
        leaves("84 83 82 81", 122, "3 2 4");
        leaves("84 83 82 82", 122, "4 2 3");
        fault(11, "84 83 82 83", 122, "3 2 3 4");
        leaves("84 0", 122, "4");
        fault(11, "84 81", 122, "1 4");
        check.spend("85 84 81x27 1 28", "122", "0 at -1 in 1 done 31: [5 " + ones(27) + " 4]");
        check.spend("85 84 81x27 1 27", "122", "0 at -1 in 1 done 31: [4 " + ones(27) + " 5]");
        fault(11, "85 84 81x27 1 29", 122, "29 " + ones(27) + " 4 5");
    }

    private static void positionOfTheItemN() {
        check.sentence("0 is the top; 13 if n is negative");
        for (int b = 121; b <= 122; b++) {
            String copied = b == 121 ? " 2 3" : " 3";
            leaves("83 82 0", b, "2" + copied);
            leaves("83 82 1 0", b, "2" + copied);
            leaves("83 82 4 0 0 0 0", b, "2" + copied);
            // -0 is 0, and not less.
            leaves("83 82 1 128", b, "2" + copied);
            fault(13, "83 82 79", b, "129 2 3");
            fault(13, "79", b, "129");
            fault(13, "83 82 " + LEAST, b, "255.255.255.255 2 3");
            fault(13, "83 82 4 1 0 0 128", b, "1.0.0.128 2 3");
            fault(11, "83 82 " + MOST, b, "255.255.255.127 2 3");
            fault(11, "83 82 2 0 1", b, "0.1 2 3");
            fault(12, "83 82 5 0x5", b, "0.0.0.0.0 2 3");
            fault(12, "83 82 5 0 0 0 0 128", b, "0.0.0.0.128 2 3");
            fault(11, "0", b, "e");
            fault(11, "", b, "");
        }
    }

    private static void zTakenOut() {
        check.sentence("123 z is taken out : z");
        leaves("85 84 83 82", 123, "4 2 3 5");
        leaves("84 83 82", 123, "4 2 3");
        fault(11, "83 82", 123, "2 3");
        fault(11, "82", 123, "2");
        check.spend("81x30", "123", "0 at -1 in 1 done 31: [" + ones(30) + "]");
    }

    private static void yTakenOut() {
        check.sentence("124 y is taken out : y");
        leaves("84 83 82", 124, "3 2 4");
        leaves("83 82", 124, "3 2");
        fault(11, "82", 124, "2");
        check.spend("81x30", "124", "0 at -1 in 1 done 31: [" + ones(30) + "]");
    }

    private static void copyBelow() {
        check.sentence("125 a copy of x is put below y");
        leaves("84 83 82", 125, "2 3 2 4");
        leaves("83 82", 125, "2 3 2");
        fault(11, "82", 125, "2");
        fault(14, "81x30", 125, ones(30));
        check.spend("83 81x27 84", "125", "0 at -1 in 1 done 30: [4 1 4 " + ones(26) + " 3]");
    }

    // 130 to 136.

    private static void thirdRow() {
        lengthOfX();
        sameBytes();
        verifySameBytes();
    }

    private static void lengthOfX() {
        check.sentence("130 : 'length of x' (x stays)");
        leaves("0", 130, "e e");
        leaves("81", 130, "1 1");
        leaves("1 0", 130, "1 0");
        leaves("5 0x5", 130, "5 0.0.0.0.0");
        leaves("32 7x32", 130, "32 7" + ".7".repeat(31));
        fault(11, "", 130, "");
        fault(14, "81x30", 130, ones(30));
        check.spend("81x29", "130", "0 at -1 in 1 done 30: [" + ones(30) + "]");
    }

    private static final String[][] SAME = {{"0", "0"}, {"82", "82"}, {"2 7 8", "2 7 8"}, {"32 7x32", "32 7x32"}};
    /** The two items, and how they are told. */
    private static final String[][] NOT_SAME = {{"0", "1 0", "0 e"}, {"1 0", "0", "e 0"}, {"0", "1 128", "128 e"},
        {"82", "2 2 0", "2.0 2"}, {"2 7 8", "3 7 8 9", "7.8.9 7.8"}, {"3 7 8 9", "2 7 8", "7.8 7.8.9"},
        {"3 7 8 9", "3 6 8 9", "6.8.9 7.8.9"}, {"3 7 8 9", "3 7 8 10", "7.8.10 7.8.9"}};

    private static void sameBytes() {
        check.sentence("135 x, y taken : '1 if they have the same bytes, else 0'");
        for (String[] same : SAME) {
            leaves("83 " + same[0] + " " + same[1], 135, "1 3");
        }
        for (String[] not : NOT_SAME) {
            leaves("83 " + not[0] + " " + not[1], 135, "e 3");
        }
        leaves("83 32 7x32 32 7x31 8", 135, "e 3");
        fault(11, "82", 135, "2");
        fault(11, "", 135, "");
    }

    private static void verifySameBytes() {
        check.sentence("136 x, y taken (9 if they have not the same bytes)");
        for (String[] same : SAME) {
            leaves("83 " + same[0] + " " + same[1], 136, "3");
        }
        for (String[] not : NOT_SAME) {
            fault(9, "83 " + not[0] + " " + not[1], 136, not[2] + " 3");
        }
        fault(11, "82", 136, "2");
        fault(11, "", 136, "");
    }

    // 139 to 146.

    private static void numberRow() {
        oneMore();
        oneLess();
        negative();
        absolute();
        isZero();
        isNotZero();
        xAsANumber();
    }

    private static void oneMore() {
        check.sentence("139 'x + 1'");
        leaves("83 0", 139, "1 3");
        leaves("83 79", 139, "e 3");
        leaves("83 1 130", 139, "129 3");
        leaves("83 96", 139, "17 3");
        leaves("83 1 127", 139, "128.0 3");
        leaves("83 " + MOST, 139, "0.0.0.128.0 3");
        leaves("83 " + LEAST, 139, "254.255.255.255 3");
    }

    private static void oneLess() {
        check.sentence("140 'x - 1'");
        leaves("83 0", 140, "129 3");
        leaves("83 81", 140, "e 3");
        leaves("83 79", 140, "130 3");
        leaves("83 1 255", 140, "128.128 3");
        leaves("83 2 128 0", 140, "127 3");
        leaves("83 " + LEAST, 140, "0.0.0.128.128 3");
        leaves("83 " + MOST, 140, "254.255.255.127 3");
    }

    private static void negative() {
        check.sentence("143 '-x'");
        leaves("83 0", 143, "e 3");
        leaves("83 1 128", 143, "e 3");
        leaves("83 81", 143, "129 3");
        leaves("83 79", 143, "1 3");
        leaves("83 2 128 0", 143, "128.128 3");
        leaves("83 " + MOST, 143, "255.255.255.255 3");
        leaves("83 " + LEAST, 143, "255.255.255.127 3");
    }

    private static void absolute() {
        check.sentence("144 '|x|'");
        leaves("83 0", 144, "e 3");
        leaves("83 1 128", 144, "e 3");
        leaves("83 81", 144, "1 3");
        leaves("83 79", 144, "1 3");
        leaves("83 2 128 128", 144, "128.0 3");
        leaves("83 " + MOST, 144, "255.255.255.127 3");
        leaves("83 " + LEAST, 144, "255.255.255.127 3");
    }

    private static void isZero() {
        check.sentence("145 '1 if x is 0, else 0'");
        for (String zero : new String[] {"0", "1 0", "1 128", "4 0x4", "4 0 0 0 128"}) {
            leaves("83 " + zero, 145, "1 3");
        }
        for (String other : new String[] {"81", "79", "2 0 1", "4 0 0 0 1", "4 0 0 0 129", MOST, LEAST}) {
            leaves("83 " + other, 145, "e 3");
        }
    }

    private static void isNotZero() {
        check.sentence("146 '0 if x is 0, else 1'");
        for (String zero : new String[] {"0", "1 0", "1 128", "4 0x4", "4 0 0 0 128"}) {
            leaves("83 " + zero, 146, "e 3");
        }
        for (String other : new String[] {"81", "79", "2 0 1", "4 0 0 0 1", "4 0 0 0 129", MOST, LEAST}) {
            leaves("83 " + other, 146, "1 3");
        }
    }

    private static void xAsANumber() {
        check.sentence("with x as a number taken");
        for (int b : Check.bytes("139 140 143 144 145 146")) {
            fault(11, "", b, "");
            fault(12, "83 5 0x5", b, "0.0.0.0.0 3");
            fault(12, "83 5 1 0 0 0 128", b, "1.0.0.0.128 3");
            check.due("items behind 4 bytes and " + b, itemsBehind("83 4 2 0 0 0", b), 2);
            check.due("items behind x alone and " + b, itemsBehind("82", b), 1);
        }
    }

    private static int itemsBehind(String unlocking, int b) {
        SpendScript x = Check.fed(unlocking, b + "");
        x.spend();
        return x.items();
    }

    // 147 to 164.

    private static void twoNumbersRow() {
        sum();
        difference();
        lesser();
        greater();
        verifyEqual();
        bothNotZero();
        oneNotZero();
        equal();
        differs();
        comparisons();
        xAndYAsNumbers();
    }

    private static void sum() {
        check.sentence("147 'y + x'");
        leaves("83 84 82", 147, "6 3");
        leaves("83 81 79", 147, "e 3");
        leaves("83 0 1 128", 147, "e 3");
        leaves("83 1 127 81", 147, "128.0 3");
        leaves("83 " + MOST + " " + MOST, 147, "254.255.255.255.0 3");
        leaves("83 " + LEAST + " " + LEAST, 147, "254.255.255.255.128 3");
        leaves("83 " + MOST + " " + LEAST, 147, "e 3");
        leaves("83 " + MOST + " 81", 147, "0.0.0.128.0 3");
    }

    private static void difference() {
        check.sentence("148 'y - x'");
        leaves("83 84 82", 148, "2 3");
        leaves("83 82 84", 148, "130 3");
        leaves("83 84 84", 148, "e 3");
        leaves("83 " + MOST + " " + LEAST, 148, "254.255.255.255.0 3");
        leaves("83 " + LEAST + " " + MOST, 148, "254.255.255.255.128 3");
        leaves("83 " + LEAST + " 81", 148, "0.0.0.128.128 3");
        leaves("83 " + MOST + " " + MOST, 148, "e 3");
    }

    private static void lesser() {
        check.sentence("163 'the lesser'");
        leaves("83 84 82", 163, "2 3");
        leaves("83 82 84", 163, "2 3");
        leaves("83 82 82", 163, "2 3");
        leaves("83 79 81", 163, "129 3");
        leaves("83 0 1 128", 163, "e 3");
        leaves("83 2 7 0 2 8 0", 163, "7 3");
        leaves("83 " + MOST + " " + LEAST, 163, "255.255.255.255 3");
    }

    private static void greater() {
        check.sentence("164 'the greater'");
        leaves("83 84 82", 164, "4 3");
        leaves("83 82 84", 164, "4 3");
        leaves("83 82 82", 164, "2 3");
        leaves("83 79 81", 164, "1 3");
        leaves("83 1 128 0", 164, "e 3");
        leaves("83 2 7 0 2 8 0", 164, "8 3");
        leaves("83 " + MOST + " " + LEAST, 164, "255.255.255.127 3");
    }

    private static void verifyEqual() {
        check.sentence("157 nothing is pushed, 9 if they differ");
        leaves("83 82 82", 157, "3");
        leaves("83 82 2 2 0", 157, "3");
        leaves("83 0 1 128", 157, "3");
        leaves("83 " + MOST + " " + MOST, 157, "3");
        fault(9, "83 82 84", 157, "4 2 3");
        fault(9, "83 81 79", 157, "129 1 3");
        fault(9, "83 " + MOST + " 4 254 255 255 127", 157, "254.255.255.127 255.255.255.127 3");
    }

    /** y, x, and how they stand. */
    private static final String[][] COMPARED = {{"82", "82", "="}, {"81", "82", "<"}, {"82", "81", ">"},
        {"79", "0", "<"}, {"0", "79", ">"}, {"1 130", "79", "<"}, {"79", "1 130", ">"}, {"0", "1 128", "="},
        {"82", "4 2 0 0 0", "="}, {LEAST, MOST, "<"}, {MOST, LEAST, ">"}, {MOST, MOST, "="}, {LEAST, LEAST, "="},
        {"4 254 255 255 127", MOST, "<"}, {"2 0 1", "2 255 0", ">"}};

    private static void compared(int b, String kinds) {
        for (String[] row : COMPARED) {
            leaves("83 " + row[0] + " " + row[1], b, kinds.contains(row[2]) ? "1 3" : "e 3");
        }
    }

    private static void bothNotZero() {
        check.sentence("'1 if .., else 0' for: 154 both are not 0");
        leaves("83 0 0", 154, "e 3");
        leaves("83 81 0", 154, "e 3");
        leaves("83 0 81", 154, "e 3");
        leaves("83 81 81", 154, "1 3");
        leaves("83 79 82", 154, "1 3");
        leaves("83 81 1 128", 154, "e 3");
        leaves("83 2 0 128 81", 154, "e 3");
    }

    private static void oneNotZero() {
        check.sentence("'1 if .., else 0' for: 155 one is not 0");
        leaves("83 0 0", 155, "e 3");
        leaves("83 81 0", 155, "1 3");
        leaves("83 0 81", 155, "1 3");
        leaves("83 81 81", 155, "1 3");
        leaves("83 79 81", 155, "1 3");
        leaves("83 0 1 128", 155, "e 3");
        leaves("83 2 0 128 0", 155, "e 3");
    }

    private static void equal() {
        check.sentence("'1 if .., else 0' for: 156 y = x");
        compared(156, "=");
    }

    private static void differs() {
        check.sentence("'1 if .., else 0' for: 158 y differs from x");
        compared(158, "<>");
    }

    private static void comparisons() {
        check.sentence("'1 if .., else 0' for: 159 y < x");
        compared(159, "<");
        check.sentence("'1 if .., else 0' for: 160 y > x");
        compared(160, ">");
        check.sentence("'1 if .., else 0' for: 161 y <= x");
        compared(161, "<=");
        check.sentence("'1 if .., else 0' for: 162 y >= x");
        compared(162, ">=");
    }

    private static void xAndYAsNumbers() {
        check.sentence("with x and y as numbers taken");
        for (int b : Check.bytes("147 148 163 164 157 154 155 156 158 159 160 161 162")) {
            fault(11, "", b, "");
            fault(11, "82", b, "2");
            fault(12, "83 82 5 2 0 0 0 0", b, "2.0.0.0.0 2 3");
            fault(12, "83 5 2 0 0 0 0 82", b, "2 2.0.0.0.0 3");
            check.due("items behind " + b, itemsBehind("83 82 4 2 0 0 0", b), b == 157 ? 1 : 2);
            check.due("items behind two alone and " + b, itemsBehind("82 82", b), b == 157 ? 0 : 1);
        }
    }

    // 165.

    private static void within() {
        check.sentence("165 x, y, z as numbers taken : '1 if y <= z and z < x, else 0'");
        // z, y, x: from 4 on, below 8.
        leaves("83 83 84 88", 165, "e 3");
        leaves("83 84 84 88", 165, "1 3");
        leaves("83 87 84 88", 165, "1 3");
        leaves("83 88 84 88", 165, "e 3");
        leaves("83 89 84 88", 165, "e 3");
        leaves("83 84 84 84", 165, "e 3");
        leaves("83 84 84 85", 165, "1 3");
        leaves("83 86 88 84", 165, "e 3");
        leaves("83 0 79 81", 165, "1 3");
        leaves("83 79 79 0", 165, "1 3");
        leaves("83 1 128 0 81", 165, "1 3");
        leaves("83 " + LEAST + " " + LEAST + " " + MOST, 165, "1 3");
        leaves("83 " + MOST + " " + LEAST + " " + MOST, 165, "e 3");
        leaves("82 81 83", 165, "1");
        fault(11, "82 81", 165, "1 2");
        fault(11, "82", 165, "2");
        fault(11, "", 165, "");
        fault(12, "82 81 5 0x5", 165, "0.0.0.0.0 1 2");
        fault(12, "82 5 0x5 81", 165, "1 0.0.0.0.0 2");
        fault(12, "5 0x5 82 81", 165, "1 2 0.0.0.0.0");
    }

    // 169 to 173.

    private static void signatureRow() {
        digestTaken();
        signatureChecked();
        signatureVerified();
    }

    private static void digestTaken() {
        check.sentence("169 x taken : its digest");
        leaves("83 0", 169, "17.0.0.0 3");
        leaves("83 1 0", 169, "15.2.0.0 3");
        leaves("83 32 255x32", 169, "17.58.253.8 3");
        leaves("0", 169, "17.0.0.0");
        fault(11, "", 169, "");
        check.spend("81x29 0", "169", "0 at -1 in 1 done 31: [17.0.0.0 " + ones(29) + "]");
    }

    private static void signatureChecked() {
        check.sentence("172 x (a key) and y (a signature) taken : '1 if y is valid for x, else 0'");
        String good = "90 " + Check.push(S1) + " " + Check.push(K1);
        check.spend(good, "172", "0 at -1 in 1 done 4: [1 10]", PAIRS);
        check.spend("90 " + Check.push(K1) + " " + Check.push(S1), "172", "16 at 1 in 1 done 4: [e 10]", PAIRS);
        check.spend("90 " + Check.push(S1) + " " + Check.push(K2), "172", "16 at 1 in 1 done 4: [e 10]", PAIRS);
        check.spend("90 0 " + Check.push(K1), "172", "16 at 1 in 1 done 4: [e 10]", "", K1);
        check.spend(good, "172", "16 at 1 in 1 done 4: [e 10]");
        fault(11, "82", 172, "2");
        fault(11, "", 172, "");
    }

    private static void signatureVerified() {
        check.sentence("173 the same taken, nothing pushed, 9 if y is not valid for x");
        String good = "90 " + Check.push(S1) + " " + Check.push(K1);
        check.spend(good, "173", "0 at -1 in 1 done 4: [10]", PAIRS);
        check.spend(good.substring(3), "173 81", "0 at -1 in 1 done 4: [1]", PAIRS);
        check.spend("90 " + Check.push(K1) + " " + Check.push(S1), "173",
            "9 at 0 in 1 done 3: [48.3.2.1.1.1 31.1 10]", PAIRS);
        check.spend("90 " + Check.push(S1) + " " + Check.push(K2), "173",
            "9 at 0 in 1 done 3: [32.2 48.3.2.1.1.1 10]", PAIRS);
        check.spend("90 0 " + Check.push(K1), "173", "9 at 0 in 1 done 3: [31.1 e 10]", "", K1);
        fault(11, "82", 173, "2");
        fault(11, "", 173, "");
    }

    // 174.

    private static void severalSignaturesRow() {
        numberOfKeys();
        theKeys();
        numberOfSignatures();
        theSignatures();
        oneItemMore();
        eachSignatureHasAKey();
        keysInTheirOrder();
    }

    private static void numberOfKeys() {
        check.sentence("174 taken are x as a number n of keys (13 if it is not 0 .. 4)");
        leaves("83 0 0 0", 174, "1 3");
        leaves("83 0 0 82 82 82 82 84", 174, "1 3");
        leaves("83 0 0 1 128", 174, "1 3");
        fault(13, "83 0 0 82 82 82 82 82 85", 174, "5 2 2 2 2 2 e e 3");
        fault(13, "83 0 0 79", 174, "129 e e 3");
        fault(13, "83 0 0 2 0 1", 174, "0.1 e e 3");
        fault(13, "83 0 0 " + MOST, 174, "255.255.255.127 e e 3");
        fault(13, "83 0 0 " + LEAST, 174, "255.255.255.255 e e 3");
        fault(12, "83 0 0 5 0x5", 174, "0.0.0.0.0 e e 3");
        fault(11, "", 174, "");
    }

    private static void theKeys() {
        check.sentence("n keys");
        for (int n = 0; n <= 4; n++) {
            leaves("83 0 0 " + "82 ".repeat(n) + (n == 0 ? 0 : 80 + n), 174, "1 3");
        }
        fault(11, "81", 174, "1");
        fault(11, "82 82", 174, "2 2");
        fault(11, "82 82 82 84", 174, "4 2 2 2");
        // Their number is none of them.
        several(row(S1), row(K2), false, S1, "1");
        several(row(S1), row(K2, K3), false, S1, "2");
    }

    private static void numberOfSignatures() {
        check.sentence("a number m of signatures (13 if it is not 0 .. n)");
        leaves("83 0 0 82 81", 174, "1 3");
        leaves("83 0 0 81 82 81", 174, "e 3");
        fault(13, "83 0 0 0 82 82 81", 174, "1 2 2 e e e 3");
        fault(13, "83 0 81 0", 174, "e 1 e 3");
        fault(13, "83 0 79 0", 174, "e 129 e 3");
        fault(13, "83 0 79 82 81", 174, "1 2 129 e 3");
        leaves("83 0x5 84 82 82 82 82 84", 174, "e 3");
        fault(13, "83 0x6 85 82 82 82 82 84", 174, "4 2 2 2 2 5 e e e e e e 3");
        fault(12, "83 0 5 0x5 82 81", 174, "1 2 0.0.0.0.0 e 3");
        fault(11, "82 81", 174, "1 2");
        fault(11, "0", 174, "e");
    }

    private static void theSignatures() {
        check.sentence("m signatures");
        for (int m = 0; m <= 4; m++) {
            String count = m == 0 ? "0" : 80 + m + "";
            leaves("83 0 " + "82 ".repeat(m) + count + " 82 82 82 82 84", 174, m == 0 ? "1 3" : "e 3");
        }
        fault(11, "82 82 82 82", 174, "2 2 2 2");
        fault(11, "0 82 82 82 82", 174, "2 2 2 2 e");
        fault(11, "0 0 84 82 82 82 82 84", 174, "4 2 2 2 2 4 e e");
    }

    private static void oneItemMore() {
        check.sentence("one item more");
        fault(11, "0 0", 174, "e e");
        leaves("0 0 0", 174, "1");
        leaves("83 84 0 0", 174, "1 3");
        leaves("83 32 7x32 0 0", 174, "1 3");
        fault(11, "0 0 82 82 82 82", 174, "2 2 2 2 e e");
        leaves("0 0 0 82 82 82 82", 174, "e");
        // It is no signature: that it is valid for a key that is left, or for none, is all the same.
        String below = "90 " + Check.push(S1) + " ";
        String keys = " 81 " + Check.push(K1) + " " + Check.push(K2) + " 82";
        check.spend(below + Check.push(S2) + keys, "174", "0 at -1 in 1 done 8: [1 10]", PAIRS);
        check.spend(below + Check.push(S3) + keys, "174", "16 at 1 in 1 done 8: [e 10]", PAIRS);
        // What lies on the second stack is no such item.
        check.spend("83", "107 0 0 174", "11 at 3 in 1 done 4: [e e]");
    }

    /** Signatures and keys as they are pushed, the top ones last, on an item more and a 10 below it. */
    private static void several(String[] signatures, String[] keys, boolean valid, String... pairs) {
        StringBuilder pushes = new StringBuilder("90 0");
        for (String signature : signatures) {
            pushes.append(' ').append(Check.push(signature));
        }
        pushes.append(' ').append(signatures.length == 0 ? 0 : 80 + signatures.length);
        for (String key : keys) {
            pushes.append(' ').append(Check.push(key));
        }
        pushes.append(' ').append(keys.length == 0 ? 0 : 80 + keys.length);
        int done = signatures.length + keys.length + 5;
        String want = valid ? "0 at -1 in 1 done " + done + ": [1 10]" : "16 at 1 in 1 done " + done + ": [e 10]";
        check.spend(pushes.toString(), "174", want, pairs);
    }

    private static String[] row(String... items) {
        return items;
    }

    private static void eachSignatureHasAKey() {
        check.sentence("'1 if each signature, from the top one on, is valid for a key .., else 0'");
        several(row(), row(), true);
        several(row(), row(K1, K2, K3, K4), true);
        several(row(S1), row(K1), true, PAIRS);
        several(row(S1), row(K2), false, PAIRS);
        several(row(S1), row(K1), false);
        for (String[] keys : new String[][] {row(K1, K2, K3, K4), row(K2, K1, K3, K4), row(K2, K3, K4, K1)}) {
            several(row(S1), keys, true, PAIRS);
        }
        several(row(S1), row(K2, K3, K4), false, PAIRS);
        several(row(S1, S2, S3, S4), row(K1, K2, K3, K4), true, PAIRS);
        several(row("48 3 2 1 1 0", S2, S3, S4), row(K1, K2, K3, K4), false, PAIRS);
        several(row(S1, "", S3, S4), row(K1, K2, K3, K4), false, PAIRS);
        several(row(S1, S2, S3, ""), row(K1, K2, K3, K4), false, PAIRS);
        several(row(""), row(K1), false, "", K1);
    }

    private static void keysInTheirOrder() {
        check.sentence("where the key for a signature lies deeper than the key for the signature above it");
        several(row(S1, S2), row(K1, K2), true, PAIRS);
        several(row(S2, S1), row(K1, K2), false, PAIRS);
        several(row(S1, S2), row(K2, K1), false, PAIRS);
        several(row(S1, S3), row(K1, K2, K3), true, PAIRS);
        several(row(S1, S2), row(K4, K1, K3, K2), true, PAIRS);
        several(row(S1, S2), row(K2, K4, K3, K1), false, PAIRS);
        several(row(S1, S2, S3), row(K1, K3, K2, K4), false, PAIRS);
        several(row(S4, S1, S2, S3), row(K1, K2, K3, K4), false, PAIRS);
        // The same key does not serve twice, but the same key pushed twice does.
        several(row(S1, S1), row(K1, K2), false, PAIRS);
        several(row(S1, S1), row(K2, K1), false, PAIRS);
        several(row(S1, S1), row(K1, K1), true, PAIRS);
        several(row(S1, S2), row(K1, K2), false, S1, K1, S2, K1);
        // A signature that is valid for two keys leaves the deeper one to the next.
        several(row(S1, S2), row(K1, K2), true, S1, K1, S2, K1, S2, K2);
        several(row(S1, S2), row(K1, K2, K3), true, S1, K2, S2, K2, S2, K3);
        several(row(S1, S2), row(K1, K2, K3), false, S1, K2, S1, K3, S2, K2);
    }
}
