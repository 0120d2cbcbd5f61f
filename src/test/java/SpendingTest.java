/** Promises 7 to 14: how the scripts follow one another, and what is told of the latest spending. */
public final class SpendingTest {
    private static final Check check = new Check();

    public static void main(String[] args) {
        twoScripts();
        scriptFromStack();
        notTheForm();
        eachScriptAnew();
        latestSpending();
        itemsAndBytes();
        check.finish();
    }

    private static void twoScripts() {
        check.spend("", "", "16 at 0 in 1 done 0: []");
        check.spend("81", "", "0 at -1 in 1 done 1: [1]");
        check.spend("", "81", "0 at -1 in 1 done 1: [1]");
        check.spend("0", "", "16 at 0 in 1 done 1: [e]");
        check.spend("1 128", "97", "16 at 1 in 1 done 2: [128]");
        check.spend("1 0", "97 97", "16 at 2 in 1 done 3: [0]");
        check.spend("2 128 0", "", "0 at -1 in 1 done 1: [128.0]");
        check.spend("81", "117", "16 at 1 in 1 done 2: []");
        check.spend("0 81", "", "0 at -1 in 1 done 2: [1 e]");
        check.spend("81 33", "106", "2 at 1 in 0 done 1: [1]");
    }

    private static void scriptFromStack() {
        check.spend("2 81 135", Check.lock("81 135"), "11 at 1 in 2 done 5: [1]");
        check.spend("81 2 81 135", Check.lock("81 135"), "0 at -1 in 2 done 7: [1]");
        check.spend("82 2 81 135", Check.lock("81 135"), "16 at 2 in 2 done 7: [e]");
        check.spend("82 2 81 135", Check.lock("81 136"), "16 at 7 in 1 done 5: [e 2]");
        // An empty script leaves what is below it.
        check.spend("82 0", Check.lock(""), "0 at -1 in 2 done 5: [2]");
        check.spend("0", Check.lock(""), "16 at 0 in 2 done 4: []");
        check.spend("0 0", Check.lock(""), "16 at 0 in 2 done 5: [e]");
        check.spend("", Check.lock(""), "11 at 0 in 1 done 0: []");
        // Faults inside script 2; a byte from 97 on is an operation there.
        check.spend("82 2 97 33", Check.lock("97 33"), "2 at 1 in 2 done 6: [2]");
        check.spend("82 2 97 98", Check.lock("97 98"), "2 at 1 in 2 done 6: [2]");
        check.spend("82 3 97 2 7", Check.lock("97 2 7"), "3 at 1 in 2 done 6: [2]");
        check.spend("82 3 97 1 7", Check.lock("97 1 7"), "5 at 1 in 2 done 6: [2]");
        check.spend("82 2 97 99", Check.lock("97 99"), "7 at 2 in 2 done 7: []");
        check.spend("82 2 97 103", Check.lock("97 103"), "7 at 1 in 2 done 6: [2]");
        check.spend("82 2 97 106", Check.lock("97 106"), "10 at 1 in 2 done 6: [2]");
        check.spend("82 32 97x32", Check.lock("97x32"), "6 at 25 in 2 done 30: [2]");
        check.spend("82 25 97x25", Check.lock("97x25"), "0 at -1 in 2 done 30: [2]");
        check.spend("82 32 81x32", Check.lock("81x32"), "14 at 29 in 2 done 34: [1" + " 1".repeat(28) + " 2]");
        // It runs once only, even if it has the form itself.
        check.spend("81 7 169 4 1 2 3 4 135", Check.lock("169 4 1 2 3 4 135"), "16 at 7 in 2 done 8: [e]");
        String inner = Check.lock("81");
        check.spend("1 81 7 " + inner, Check.lock(inner), "0 at -1 in 2 done 8: [1]");
        // Script 1 needs one item more than script 0 left.
        check.spend("81x29 0", Check.lock(""), "14 at 1 in 1 done 31: [17.0.0.0" + " 1".repeat(29) + "]");
        check.spend("81x28 0", Check.lock(""), "0 at -1 in 2 done 32: [1" + " 1".repeat(27) + "]");
    }

    private static void notTheForm() {
        String h = Check.lock("81 135");
        check.spend("82 2 81 135", h + " 97", "0 at -1 in 1 done 6: [1 2]");
        check.spend("82 2 81 135", "97 " + h, "0 at -1 in 1 done 6: [1 2]");
        check.spend("82 2 81 135", h.replace(" 135", " 136"), "0 at -1 in 1 done 5: [2]");
        check.spend("82 2 81 135", "118 4 1 2 3 4 136", "9 at 6 in 1 done 4: [1.2.3.4 81.135 81.135 2]");
        check.spend("82 2 81 135", "169 3 1 2 3 81 135", "16 at 7 in 1 done 6: [e " + Check.digest("81 135") + " 2]");
        check.spend("81", "169 5 1 2 3 4 135", "0 at -1 in 1 done 3: [1.2.3.4.135 " + Check.digest("1") + "]");
    }

    private static void eachScriptAnew() {
        // The operations met are counted for each script of its own.
        String counted = Check.lock("97x25");
        check.spend("82 25 97x25", counted, "0 at -1 in 2 done 30: [2]");
        // The second stack is empty at first, also behind a spending that left something there.
        SpendScript y = Check.fed("82 81", "107");
        check.due("spend", y.spend(), 0);
        y.clear(1);
        Check.feed(y, 1, "108");
        check.due("spend", y.spend(), 11);
        y.clear(0);
        y.clear(1);
        Check.feed(y, 0, "81x30");
        check.due("spend: the second stack takes no room", y.spend(), 0);
        // A branch that stayed open is not open in the next spending.
        SpendScript z = Check.fed("82 0", "99");
        check.due("spend", z.spend(), 7);
        z.clear(1);
        Check.feed(z, 1, "104");
        check.due("spend", z.spend(), 7);
        z.clear(1);
        Check.feed(z, 1, "83");
        check.due("spend", z.spend(), 0);
        check.due("items", Check.items(z), "[3 e 2]");
    }

    private static void latestSpending() {
        SpendScript x = Check.fed("81 81", "147 106");
        check.due("spend", x.spend(), 10);
        check.due("after a fault", Check.outcome(x), "10 at 1 in 1 done 3: [2]");
        x.feed(0, 82);
        x.feed(1, 97);
        check.due("after feed()", Check.outcome(x), "10 at 1 in 1 done 3: [2]");
        x.clear(0);
        x.clear(1);
        check.due("after clear()", Check.outcome(x), "10 at 1 in 1 done 3: [2]");
        x.confirm(1, 2);
        x.digest(0, 0, 0);
        check.due("after confirm()", Check.outcome(x), "10 at 1 in 1 done 3: [2]");
        Check.feed(x, 0, "81 0");
        Check.feed(x, 1, Check.lock(""));
        check.due("spend", x.spend(), 0);
        check.due("after none", Check.outcome(x), "0 at -1 in 2 done 5: [1]");
        x.clear(0);
        x.feed(0, 150);
        check.due("spend", x.spend(), 15);
        check.due("after a fault in script 0", Check.outcome(x), "15 at 0 in 0 done 0: []");
    }

    private static void itemsAndBytes() {
        SpendScript x = Check.fed("0 3 255 128 0 32 7x31 9 81", "");
        check.due("spend", x.spend(), 0);
        check.due("items()", x.items(), 4);
        int[] lengths = {1, 32, 3, 0};
        for (int k = 0; k < 4; k++) {
            check.due("itemLength(" + k + ")", x.itemLength(k), lengths[k]);
            check.due("itemByte behind item " + k, x.itemByte(k, lengths[k]), -1);
            check.due("itemByte before item " + k, x.itemByte(k, -1), -1);
        }
        check.due("itemByte(2, 0)", x.itemByte(2, 0), 255);
        check.due("itemByte(2, 1)", x.itemByte(2, 1), 128);
        check.due("itemByte(2, 2)", x.itemByte(2, 2), 0);
        check.due("itemByte(1, 31)", x.itemByte(1, 31), 9);
        for (int k : new int[] {-1, 4, 5, 29, 30, 31, Integer.MIN_VALUE, Integer.MAX_VALUE}) {
            check.due("itemLength(" + k + ")", x.itemLength(k), -1);
            check.due("itemByte(" + k + ", 0)", x.itemByte(k, 0), -1);
        }
        for (int i : new int[] {Integer.MIN_VALUE, Integer.MAX_VALUE, 33}) {
            check.due("itemByte(1, " + i + ")", x.itemByte(1, i), -1);
        }
    }
}
