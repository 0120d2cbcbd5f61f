/** Promise 7: branches, and how many operations a script may have. */
public final class BranchTest {
    private static final Check check = new Check();

    public static void main(String[] args) {
        oneBranch();
        truth();
        turnedTwice();
        nested();
        uneven();
        tooManyBranches();
        passedOver();
        tooManyOperations();
        check.finish();
    }

    private static void oneBranch() {
        check.spend("81", "99 82 103 83 104", "0 at -1 in 1 done 5: [2]");
        check.spend("0", "99 82 103 83 104", "0 at -1 in 1 done 5: [3]");
        check.spend("81", "100 82 103 83 104", "0 at -1 in 1 done 5: [3]");
        check.spend("0", "100 82 103 83 104", "0 at -1 in 1 done 5: [2]");
        check.spend("", "99 104", "11 at 0 in 1 done 0: []");
        check.spend("", "100 104", "11 at 0 in 1 done 0: []");
    }

    private static void truth() {
        String[] untrue = {"0", "1 0", "1 128", "2 0 0", "2 0 128", "5 0 0 0 0 128", "32 0x32", "32 0x31 128"};
        for (String item : untrue) {
            check.spend(item, "99 82 103 83 104", "0 at -1 in 1 done 5: [3]");
        }
        String[] isTrue = {"81", "79", "1 127", "2 128 0", "2 128 128", "2 0 129", "3 0 1 128", "32 0x31 1", "32 1 0x31"};
        for (String item : isTrue) {
            check.spend(item, "99 82 103 83 104", "0 at -1 in 1 done 5: [2]");
        }
    }

    private static void turnedTwice() {
        check.spend("81", "99 82 103 83 103 84 104", "0 at -1 in 1 done 7: [4 2]");
        check.spend("0", "99 82 103 83 103 84 104", "0 at -1 in 1 done 6: [3]");
    }

    private static void nested() {
        // Inside one that is not active nothing is taken, and its own turning makes nothing active.
        check.spend("85 0", "99 99 82 103 83 104 104", "0 at -1 in 1 done 7: [5]");
        check.spend("85 0", "99 100 82 103 83 104 103 84 104", "0 at -1 in 1 done 9: [4 5]");
        check.spend("81 81", "99 99 82 103 83 104 103 84 104", "0 at -1 in 1 done 9: [2]");
        check.spend("0 81", "99 99 82 103 83 104 103 84 104", "0 at -1 in 1 done 9: [3]");
        // Behind the inner branch the outer one is turned as ever.
        check.spend("85 0", "99 99 103 104 103 84 104", "0 at -1 in 1 done 9: [4 5]");
    }

    private static void uneven() {
        check.spend("81", "103", "7 at 0 in 1 done 1: [1]");
        check.spend("81", "104", "7 at 0 in 1 done 1: [1]");
        check.spend("81", "99", "7 at 1 in 1 done 2: []");
        check.spend("81 81", "99 82", "7 at 2 in 1 done 4: [2 1]");
        check.spend("0", "99 82 7 1x7", "7 at 10 in 1 done 2: []");
        check.spend("81 81", "99 104 104", "7 at 2 in 1 done 4: [1]");
        check.spend("81 81", "99 104 103", "7 at 2 in 1 done 4: [1]");
        check.spend("81 81 81", "99 99 104", "7 at 3 in 1 done 6: [1]");
        // At the end 7 comes before 16.
        check.spend("0 0", "99", "7 at 1 in 1 done 3: [e]");
    }

    private static void tooManyBranches() {
        check.spend("82 81x8", "99x8 104x8", "0 at -1 in 1 done 25: [2]");
        check.spend("82 81x9", "99x9 104x9", "8 at 8 in 1 done 18: [1 2]");
        check.spend("82 81x8", "99x8 100", "8 at 8 in 1 done 17: [2]");
        // 8 comes before 11, also where nothing would be taken.
        check.spend("81x8", "99x8 99", "8 at 8 in 1 done 16: []");
        check.spend("82 0", "99x8 104x8", "0 at -1 in 1 done 18: [2]");
        check.spend("82 0", "99x9 104x9", "8 at 8 in 1 done 10: [2]");
        // Closed ones don't count.
        check.spend("82 81x8", "99x7 104 99 104x7", "0 at -1 in 1 done 25: [2]");
    }

    private static void passedOver() {
        check.spend("82 0", "99 106 105 108 123 174 165 173 104", "0 at -1 in 1 done 4: [2]");
        check.spend("82 0", "99 0 79 96 5 106x5 104", "0 at -1 in 1 done 4: [2]");
        check.spend("82 0", "99 5 106x4", "3 at 1 in 1 done 3: [2]");
        check.spend("82 0", "99 1 129 104", "5 at 1 in 1 done 3: [2]");
        check.spend("82 0", "99 98 104", "2 at 1 in 1 done 3: [2]");
        check.spend("82 0", "99 80 104", "2 at 1 in 1 done 3: [2]");
        // The bytes of a push that is passed over are no operations.
        check.spend("82 0", "99 3 104 104 104 104", "0 at -1 in 1 done 4: [2]");
    }

    private static void tooManyOperations() {
        check.spend("82", "97x25", "0 at -1 in 1 done 26: [2]");
        check.spend("82", "97x26", "6 at 25 in 1 done 26: [2]");
        check.spend("82", "97x25 81 81 97", "6 at 27 in 1 done 28: [1 1 2]");
        check.spend("82", "97x25 81x20", "0 at -1 in 1 done 46: [1" + " 1".repeat(19) + " 2]");
        // Those that are passed over count, and so do branches.
        check.spend("82 0", "99 97x23 104", "0 at -1 in 1 done 4: [2]");
        check.spend("82 0", "99 97x24 104", "6 at 25 in 1 done 3: [2]");
        check.spend("82 0", "99 97x25 104", "6 at 25 in 1 done 3: [2]");
        // 2 comes before 6; 6 before all that the operation itself would find.
        check.spend("82", "97x25 98", "2 at 25 in 1 done 26: [2]");
        check.spend("82", "97x25 106", "6 at 25 in 1 done 26: [2]");
        check.spend("", "97x25 117", "6 at 25 in 1 done 25: []");
        check.spend("82", "97x25 104", "6 at 25 in 1 done 26: [2]");
        check.spend("82 0", "99x8 97x17 99", "6 at 25 in 1 done 10: [2]");
    }
}
