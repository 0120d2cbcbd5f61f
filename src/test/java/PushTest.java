/** Promise 7: pushes, and what is no push and no operation. */
public final class PushTest {
    private static final Check check = new Check();

    public static void main(String[] args) {
        ordinary();
        missingBytes();
        shortestForm();
        badBytes();
        operationsInScript0();
        tooManyItems();
        check.finish();
    }

    private static void ordinary() {
        check.spend("0", "81", "0 at -1 in 1 done 2: [1 e]");
        check.spend("79", "", "0 at -1 in 1 done 1: [129]");
        for (int b = 81; b <= 96; b++) {
            check.spend(b + "", "", "0 at -1 in 1 done 1: [" + (b - 80) + "]");
            check.spend("", b + "", "0 at -1 in 1 done 1: [" + (b - 80) + "]");
        }
        for (int c = 2; c <= 32; c++) {
            String item = "7" + ".7".repeat(c - 1);
            check.spend(c + " 7x" + c, "", "0 at -1 in 1 done 1: [" + item + "]");
            check.spend("", c + " 7x" + c + " 81", "0 at -1 in 1 done 2: [1 " + item + "]");
        }
        check.spend("2 97 255 3 0 106 1", "", "0 at -1 in 1 done 2: [0.106.1 97.255]");
    }

    private static void missingBytes() {
        for (int c = 1; c <= 32; c++) {
            check.spend("81 " + c + " 7x" + (c - 1), "", "3 at 1 in 0 done 1: [1]");
            check.spend("81", "82 " + c + " 7x" + (c - 1), "3 at 1 in 1 done 2: [2 1]");
            check.spend("0", "99 " + c + " 7x" + (c - 1), "3 at 1 in 1 done 2: []");
        }
    }

    private static void shortestForm() {
        for (int b = 0; b <= 255; b++) {
            boolean hasShorter = b == 129 || b >= 1 && b <= 16;
            String fine = b == 0 || b == 128 ? "16 at 0 in 1 done 1: [" + b + "]" : "0 at -1 in 1 done 1: [" + b + "]";
            check.spend("1 " + b, "", hasShorter ? "5 at 0 in 0 done 0: []" : fine);
            String passedOver = "16 at 4 in 1 done 3: []";
            check.spend("0", "99 1 " + b + " 104", hasShorter ? "5 at 1 in 1 done 2: []" : passedOver);
        }
        check.spend("2 5 0", "", "0 at -1 in 1 done 1: [5.0]");
        check.spend("2 1 1", "", "0 at -1 in 1 done 1: [1.1]");
    }

    private static void badBytes() {
        for (int b = 33; b <= 80; b++) {
            if (b != 79) {
                check.spend("81 " + b, "", "2 at 1 in 0 done 1: [1]");
                check.spend("81", "82 " + b, "2 at 1 in 1 done 2: [2 1]");
                check.spend("0", "99 " + b + " 104", "2 at 1 in 1 done 2: []");
            }
        }
        int[] none = {98, 101, 102, 111, 112, 113, 114, 126, 127, 128, 129, 131, 132, 133, 134, 137, 138,
            141, 142, 149, 150, 151, 152, 153, 166, 167, 168, 170, 171, 175, 176, 185, 200, 254, 255};
        for (int b : none) {
            check.spend("81x4", "82 " + b, "2 at 1 in 1 done 5: [2 1 1 1 1]");
            check.spend("0", "99 " + b + " 104", "2 at 1 in 1 done 2: []");
        }
    }

    private static void operationsInScript0() {
        for (int b = 97; b <= 255; b++) {
            check.spend("81 82 " + b, "", "15 at 2 in 0 done 2: [2 1]");
        }
    }

    private static void tooManyItems() {
        String ones = "1" + " 1".repeat(29);
        check.spend("81x30", "", "0 at -1 in 1 done 30: [" + ones + "]");
        check.spend("81x31", "", "14 at 30 in 0 done 30: [" + ones + "]");
        check.spend("81x30 0", "", "14 at 30 in 0 done 30: [" + ones + "]");
        check.spend("81x30 2 5 5", "", "14 at 30 in 0 done 30: [" + ones + "]");
        check.spend("81x30", "81", "14 at 0 in 1 done 30: [" + ones + "]");
        // The second stack counts too.
        check.spend("81x30", "107 81", "14 at 1 in 1 done 31: [1" + " 1".repeat(28) + "]");
        // The other faults of a push come before.
        check.spend("81x30 1 5", "", "5 at 30 in 0 done 30: [" + ones + "]");
        check.spend("81x30 2 5", "", "3 at 30 in 0 done 30: [" + ones + "]");
        check.spend("81x30 33", "", "2 at 30 in 0 done 30: [" + ones + "]");
        // What is passed over needs no room.
        check.spend("81x30", "117 0 99 81 81 104", "0 at -1 in 1 done 34: [1" + " 1".repeat(28) + "]");
    }
}
