/** Promise 7: the operations that arrange items, compare them or take their digest. */
public final class StackOperationTest {
    private static final Check check = new Check();

    public static void main(String[] args) {
        ordinary();
        verifying();
        secondStack();
        picking();
        comparing();
        digest();
        missingItems();
        tooManyItems();
        check.finish();
    }

    private static void ordinary() {
        check.spend("83 82 81", "97", "0 at -1 in 1 done 4: [1 2 3]");
        check.spend("83 82 81", "106", "10 at 0 in 1 done 3: [1 2 3]");
        check.spend("", "106", "10 at 0 in 1 done 0: []");
        check.spend("83 82 81", "109", "0 at -1 in 1 done 4: [3]");
        check.spend("83 82 81", "110", "0 at -1 in 1 done 4: [1 2 1 2 3]");
        check.spend("83 82 81", "115", "0 at -1 in 1 done 4: [1 1 2 3]");
        check.spend("83 1 128", "115 81", "0 at -1 in 1 done 4: [1 128 3]");
        check.spend("83 0", "115", "16 at 1 in 1 done 3: [e 3]");
        check.spend("84 84 84", "116", "0 at -1 in 1 done 4: [3 4 4 4]");
        check.spend("", "116 81", "0 at -1 in 1 done 2: [1 e]");
        check.spend("84x20", "116", "0 at -1 in 1 done 21: [20" + " 4".repeat(20) + "]");
        check.spend("83 82 81", "117", "0 at -1 in 1 done 4: [2 3]");
        check.spend("83 82 81", "118", "0 at -1 in 1 done 4: [1 1 2 3]");
        check.spend("83 82 81", "119", "0 at -1 in 1 done 4: [1 3]");
        check.spend("83 82 81", "120", "0 at -1 in 1 done 4: [2 1 2 3]");
        check.spend("84 83 82 81", "123", "0 at -1 in 1 done 5: [3 1 2 4]");
        check.spend("83 82 81", "124", "0 at -1 in 1 done 4: [2 1 3]");
        check.spend("83 82 81", "125", "0 at -1 in 1 done 4: [1 2 1 3]");
        check.spend("0", "130", "16 at 1 in 1 done 2: [e e]");
        check.spend("3 7 8 9", "130", "0 at -1 in 1 done 2: [3 7.8.9]");
        check.spend("32 7x32", "130 119", "0 at -1 in 1 done 3: [32]");
        copiesAreTheirOwn();
    }

    /** What is done to a copy leaves the item it was copied from as it was. */
    private static void copiesAreTheirOwn() {
        check.spend("85 84", "118 139", "0 at -1 in 1 done 4: [5 4 5]");
        check.spend("85 84", "120 169 117 139", "0 at -1 in 1 done 6: [5 5]");
        check.spend("85 84", "110 139 124 139", "0 at -1 in 1 done 6: [6 5 4 5]");
        check.spend("85 84", "125 139 123 139", "0 at -1 in 1 done 6: [5 5 5]");
        check.spend("85 84 81", "121 139", "0 at -1 in 1 done 5: [6 4 5]");
        check.spend("85 84 81", "122 139 117 118 139", "0 at -1 in 1 done 8: [5 4]");
        check.spend("85 84 83 82 81", "109 119 124 118 147 123", "11 at 5 in 1 done 10: [10 3]");
    }

    private static void verifying() {
        check.spend("82 81", "105", "0 at -1 in 1 done 3: [2]");
        check.spend("82 0", "105", "9 at 0 in 1 done 2: [e 2]");
        check.spend("82 2 0 128", "105", "9 at 0 in 1 done 2: [0.128 2]");
        check.spend("82 2 128 0", "105", "0 at -1 in 1 done 3: [2]");
    }

    private static void secondStack() {
        check.spend("83 82 81", "107", "0 at -1 in 1 done 4: [2 3]");
        check.spend("83 82 81", "107 107 116", "0 at -1 in 1 done 6: [1 3]");
        check.spend("83 82 81", "107 107 108", "0 at -1 in 1 done 6: [2 3]");
        check.spend("83 82 81", "107 107 108 108", "0 at -1 in 1 done 7: [1 2 3]");
        check.spend("83 82 81", "108", "11 at 0 in 1 done 3: [1 2 3]");
        check.spend("83 82 81", "107 108 108", "11 at 2 in 1 done 5: [1 2 3]");
        check.spend("83 82 81", "107 139 108 139", "0 at -1 in 1 done 7: [2 3 3]");
        check.spend("81x30", "107x12 108x12", "0 at -1 in 1 done 54: [1" + " 1".repeat(29) + "]");
    }

    private static void picking() {
        check.spend("84 83 82 0", "121", "0 at -1 in 1 done 5: [2 2 3 4]");
        check.spend("84 83 82 81", "121", "0 at -1 in 1 done 5: [3 2 3 4]");
        check.spend("84 83 82 82", "121", "0 at -1 in 1 done 5: [4 2 3 4]");
        check.spend("84 83 82 83", "121", "11 at 0 in 1 done 4: [3 2 3 4]");
        check.spend("84 83 82 0", "122", "0 at -1 in 1 done 5: [2 3 4]");
        check.spend("84 83 82 81", "122", "0 at -1 in 1 done 5: [3 2 4]");
        check.spend("84 83 82 82", "122", "0 at -1 in 1 done 5: [4 2 3]");
        check.spend("84 83 82 83", "122", "11 at 0 in 1 done 4: [3 2 3 4]");
        for (int b = 121; b <= 122; b++) {
            check.spend("", b + "", "11 at 0 in 1 done 0: []");
            check.spend("0", b + "", "11 at 0 in 1 done 1: [e]");
            check.spend("79", b + "", "13 at 0 in 1 done 1: [129]");
            check.spend("82 79", b + "", "13 at 0 in 1 done 2: [129 2]");
            check.spend("82 5 0x5", b + "", "12 at 0 in 1 done 2: [0.0.0.0.0 2]");
            check.spend("5 1x5", b + "", "12 at 0 in 1 done 1: [1.1.1.1.1]");
            check.spend("82 4 255 255 255 127", b + "", "11 at 0 in 1 done 2: [255.255.255.127 2]");
            check.spend("82 4 255 255 255 255", b + "", "13 at 0 in 1 done 2: [255.255.255.255 2]");
        }
        // 0 in other forms, the negative one among them.
        check.spend("83 82 1 128", "121", "0 at -1 in 1 done 4: [2 2 3]");
        check.spend("83 82 3 1 0 0", "122", "0 at -1 in 1 done 4: [3 2]");
        String ones = " 1".repeat(28);
        check.spend("82 81x28 1 28", "121", "0 at -1 in 1 done 31: [2" + ones + " 2]");
        check.spend("82 81x28 1 28", "122", "0 at -1 in 1 done 31: [2" + ones + "]");
    }

    private static void comparing() {
        check.spend("83 82 82", "135", "0 at -1 in 1 done 4: [1 3]");
        check.spend("83 82 81", "135", "16 at 1 in 1 done 4: [e 3]");
        check.spend("83 0 1 0", "135", "16 at 1 in 1 done 4: [e 3]");
        check.spend("83 2 7 8 3 7 8 9", "135", "16 at 1 in 1 done 4: [e 3]");
        check.spend("83 3 7 8 9 2 7 8", "135", "16 at 1 in 1 done 4: [e 3]");
        check.spend("83 32 7x32 32 7x31 8", "135", "16 at 1 in 1 done 4: [e 3]");
        check.spend("83 32 7x32 32 7x32", "135", "0 at -1 in 1 done 4: [1 3]");
        check.spend("83 0 0", "135", "0 at -1 in 1 done 4: [1 3]");
        check.spend("83 82 82", "136", "0 at -1 in 1 done 4: [3]");
        check.spend("83 82 81", "136", "9 at 0 in 1 done 3: [1 2 3]");
        check.spend("83 0 1 128", "136", "9 at 0 in 1 done 3: [128 e 3]");
    }

    private static void digest() {
        check.spend("0", "169", "0 at -1 in 1 done 2: [17.0.0.0]");
        check.spend("83 2 20 21", "169", "0 at -1 in 1 done 3: [82.66.0.0 3]");
        check.spend("6 48 3 2 1 7 1", "169", "0 at -1 in 1 done 2: [" + bytesOf(-715276035) + "]");
        SpendScript x = Check.fed("32 255x32", "169");
        check.due("spend", x.spend(), 0);
        check.due("digest of 32 bytes", Check.items(x), "[" + bytesOf(x.digest(0, 1, 32)) + "]");
    }

    private static String bytesOf(int h) {
        return (h & 255) + "." + (h >> 8 & 255) + "." + (h >> 16 & 255) + "." + (h >> 24 & 255);
    }

    private static void missingItems() {
        for (int b : new int[] {105, 107, 115, 117, 118, 130, 169}) {
            check.spend("", b + "", "11 at 0 in 1 done 0: []");
        }
        for (int b : new int[] {109, 110, 119, 120, 124, 125, 135, 136, 172, 173}) {
            check.spend("", b + "", "11 at 0 in 1 done 0: []");
            check.spend("81", b + "", "11 at 0 in 1 done 1: [1]");
        }
        check.spend("", "123", "11 at 0 in 1 done 0: []");
        check.spend("82 81", "123", "11 at 0 in 1 done 2: [1 2]");
        // The second stack's items are no items of the stack.
        check.spend("82 81", "107 124", "11 at 1 in 1 done 3: [2]");
    }

    private static void tooManyItems() {
        String full = "[1" + " 1".repeat(29) + "]";
        String lessOne = "[1" + " 1".repeat(28) + "]";
        for (int b : new int[] {110, 115, 116, 118, 120, 125, 130}) {
            check.spend("81x30", b + "", "14 at 0 in 1 done 30: " + full);
            check.spend("81x30", "107 " + b, "14 at 1 in 1 done 31: " + lessOne);
        }
        check.spend("81x29", "110", "14 at 0 in 1 done 29: " + lessOne);
        check.spend("81x28", "110", "0 at -1 in 1 done 29: " + full);
        for (int b : new int[] {115, 118, 120, 125, 130}) {
            check.spend("81x29", b + "", "0 at -1 in 1 done 30: " + full);
        }
        check.spend("81x29 0", "115", "16 at 1 in 1 done 31: [e" + " 1".repeat(29) + "]");
        for (int b : new int[] {97, 123, 124}) {
            check.spend("81x30", b + "", "0 at -1 in 1 done 31: " + full);
        }
        check.spend("81x30", "121", "0 at -1 in 1 done 31: " + full);
        check.spend("81x30", "107 108", "0 at -1 in 1 done 32: " + full);
    }
}
