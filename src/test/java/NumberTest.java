/** Promise 7: numbers, and the operations that reckon with them. */
public final class NumberTest {
    private static final Check check = new Check();
    private static final long MOST = (1L << 31) - 1;

    public static void main(String[] args) {
        written();
        otherForms();
        ofOne();
        ofTwo();
        equalNumbers();
        within();
        faults();
        check.finish();
    }

    /** Answers of a reckoning, the shortest item for each; y is pushed first. */
    private static void reckon(int b, String want, long... numbers) {
        StringBuilder pushes = new StringBuilder("90");
        for (long number : numbers) {
            pushes.append(' ').append(push(number));
        }
        SpendScript x = Check.fed(pushes.toString(), b + "");
        x.spend();
        check.due(pushes + " " + b, Check.items(x), "[" + want + " 10]");
        check.due(pushes + " " + b + " done", x.done(), numbers.length + 2);
    }

    private static String push(long number) {
        String item = item(number);
        if (number == 0) {
            return "0";
        }
        if (number >= -1 && number <= 16) {
            return 80 + number + "";
        }
        return item.split("\\.").length + " " + item.replace('.', ' ');
    }

    private static String item(long number) {
        if (number == 0) {
            return "e";
        }
        byte[] value = java.math.BigInteger.valueOf(Math.abs(number)).toByteArray();
        StringBuilder item = new StringBuilder();
        for (int i = value.length - 1; i >= 0; i--) {
            int sign = i == 0 && number < 0 ? 128 : 0;
            item.append(item.length() == 0 ? "" : ".").append(value[i] & 255 | sign);
        }
        return item.toString();
    }

    private static void written() {
        // -x of what is written out here by hand.
        reckon(143, "255.0", -255);
        check.spend("1 127", "143", "0 at -1 in 1 done 2: [255]");
        check.spend("2 128 0", "143", "0 at -1 in 1 done 2: [128.128]");
        check.spend("2 128 128", "143", "0 at -1 in 1 done 2: [128.0]");
        check.spend("2 255 0", "139", "0 at -1 in 1 done 2: [0.1]");
        check.spend("2 255 127", "139", "0 at -1 in 1 done 2: [0.128.0]");
        check.spend("2 255 255", "140", "0 at -1 in 1 done 2: [0.128.128]");
        check.spend("3 255 255 127", "139", "0 at -1 in 1 done 2: [0.0.128.0]");
        check.spend("4 255 255 255 127", "139", "0 at -1 in 1 done 2: [0.0.0.128.0]");
        check.spend("4 255 255 255 255", "140", "0 at -1 in 1 done 2: [0.0.0.128.128]");
        check.spend("4 255 255 255 127", "118 147", "0 at -1 in 1 done 3: [254.255.255.255.0]");
        check.spend("4 255 255 255 255", "118 147", "0 at -1 in 1 done 3: [254.255.255.255.128]");
        check.spend("81", "140 118 81", "0 at -1 in 1 done 4: [1 e e]");
    }

    private static void otherForms() {
        String[] zeros = {"1 0", "1 128", "2 0 0", "2 0 128", "4 0x4", "4 0x3 128", "0"};
        for (String zero : zeros) {
            check.spend("82 " + zero, "145", "0 at -1 in 1 done 3: [1 2]");
            check.spend("82 " + zero, "146", "16 at 1 in 1 done 3: [e 2]");
            check.spend("82 " + zero, "143 81", "0 at -1 in 1 done 4: [1 e 2]");
            check.spend("82 " + zero, "144 81", "0 at -1 in 1 done 4: [1 e 2]");
            check.spend("82 " + zero, "139", "0 at -1 in 1 done 3: [1 2]");
            check.spend("82 0 " + zero, "156", "0 at -1 in 1 done 4: [1 2]");
        }
        check.spend("4 5 0 0 0", "144", "0 at -1 in 1 done 2: [5]");
        check.spend("4 5 0 0 128", "144", "0 at -1 in 1 done 2: [5]");
        check.spend("4 5 0 0 128", "139", "0 at -1 in 1 done 2: [132]");
    }

    private static final long[] SAMPLES = {0, 1, -1, 2, -2, 16, 17, 127, -127, 128, -128, 255, -255, 256, -256,
        32767, -32767, 32768, -32768, 65535, 65536, 8388607, 8388608, -8388608, 16777215, 16777216,
        MOST - 1, MOST, -MOST};

    private static void ofOne() {
        for (long x : SAMPLES) {
            reckon(139, item(x + 1), x);
            reckon(140, item(x - 1), x);
            reckon(143, item(-x), x);
            reckon(144, item(Math.abs(x)), x);
            reckon(145, item(x == 0 ? 1 : 0), x);
            reckon(146, item(x == 0 ? 0 : 1), x);
        }
    }

    private static void ofTwo() {
        for (long y : SAMPLES) {
            for (long x : SAMPLES) {
                reckon(147, item(y + x), y, x);
                reckon(148, item(y - x), y, x);
                reckon(163, item(x < y ? x : y), y, x);
                reckon(164, item(x > y ? x : y), y, x);
                reckon(154, item(y != 0 && x != 0 ? 1 : 0), y, x);
                reckon(155, item(y == 0 && x == 0 ? 0 : 1), y, x);
                reckon(156, item(y == x ? 1 : 0), y, x);
                reckon(158, item(y == x ? 0 : 1), y, x);
                reckon(159, item(y < x ? 1 : 0), y, x);
                reckon(160, item(y > x ? 1 : 0), y, x);
                reckon(161, item(y <= x ? 1 : 0), y, x);
                reckon(162, item(y >= x ? 1 : 0), y, x);
            }
        }
    }

    private static void equalNumbers() {
        check.spend("82 83 83", "157", "0 at -1 in 1 done 4: [2]");
        check.spend("82 83 84", "157", "9 at 0 in 1 done 3: [4 3 2]");
        check.spend("82 81 79", "157", "9 at 0 in 1 done 3: [129 1 2]");
        check.spend("82 83 2 3 0", "157", "0 at -1 in 1 done 4: [2]");
        check.spend("82 0 1 128", "157", "0 at -1 in 1 done 4: [2]");
    }

    private static void within() {
        long[] few = {-MOST, -2, -1, 0, 1, 2, 5, MOST};
        for (long z : few) {
            for (long y : few) {
                for (long x : few) {
                    reckon(165, y <= z && z < x ? "1" : "e", z, y, x);
                }
            }
        }
    }

    private static void faults() {
        String tooLong = "5 7x5";
        String item = "7.7.7.7.7";
        for (int b : new int[] {139, 140, 143, 144, 145, 146}) {
            check.spend("", b + "", "11 at 0 in 1 done 0: []");
            check.spend(tooLong, b + "", "12 at 0 in 1 done 1: [" + item + "]");
            check.spend("32 0x32", b + "", "12 at 0 in 1 done 1: [0" + ".0".repeat(31) + "]");
        }
        for (int b : new int[] {147, 148, 154, 155, 156, 157, 158, 159, 160, 161, 162, 163, 164, 165}) {
            check.spend("", b + "", "11 at 0 in 1 done 0: []");
            check.spend("81", b + "", "11 at 0 in 1 done 1: [1]");
            // x is looked at whole before y.
            check.spend(tooLong, b + "", "12 at 0 in 1 done 1: [" + item + "]");
            check.spend("81 " + tooLong, b + "", "12 at 0 in 1 done 2: [" + item + " 1]");
            check.spend(tooLong + " 81", b + "", "12 at 0 in 1 done 2: [1 " + item + "]");
        }
        check.spend("82 81", "165", "11 at 0 in 1 done 2: [1 2]");
        check.spend(tooLong + " 82 81", "165", "12 at 0 in 1 done 3: [1 2 " + item + "]");
        // A number that was pushed with 5 bytes is none that can be taken.
        check.spend("4 255 255 255 127", "139 140", "12 at 1 in 1 done 2: [0.0.0.128.0]");
    }
}
