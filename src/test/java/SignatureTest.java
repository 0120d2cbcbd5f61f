/** Promises 5 and 7: signatures, keys, and the table that pairs them. */
public final class SignatureTest {
    private static final Check check = new Check();
    private static final String KEY = "20 21";
    private static final String SIGNATURE = "48 3 2 1 7 1";

    public static void main(String[] args) {
        oneSignature();
        table();
        wellFormed();
        severalSignatures();
        orderOfKeys();
        whatIsNoKeyAndNoSignature();
        faultsOfSeveral();
        check.finish();
    }

    private static void oneSignature() {
        String both = "90 " + Check.push(SIGNATURE) + " " + Check.push(KEY);
        check.spend(both, "172", "0 at -1 in 1 done 4: [1 10]", SIGNATURE, KEY);
        check.spend(both, "172", "16 at 1 in 1 done 4: [e 10]");
        check.spend(both, "172", "16 at 1 in 1 done 4: [e 10]", KEY, SIGNATURE);
        check.spend(both, "172", "16 at 1 in 1 done 4: [e 10]", SIGNATURE, "20 22", "48 3 2 1 8 1", KEY);
        check.spend(both, "173", "0 at -1 in 1 done 4: [10]", SIGNATURE, KEY);
        check.spend(both, "173", "9 at 0 in 1 done 3: [20.21 48.3.2.1.7.1 10]");
        check.spend("90 " + Check.push(KEY) + " " + Check.push(SIGNATURE), "172", "16 at 1 in 1 done 4: [e 10]", SIGNATURE, KEY);
        // Any item may be a key, the empty one too.
        check.spend("90 " + Check.push(SIGNATURE) + " 0", "172", "0 at -1 in 1 done 4: [1 10]", SIGNATURE, "");
        // An empty signature is allowed and never valid.
        check.spend("90 0 " + Check.push(KEY), "172", "16 at 1 in 1 done 4: [e 10]", "", KEY);
    }

    private static void table() {
        SpendScript x = Check.fed(Check.push(SIGNATURE) + " " + Check.push(KEY), "172");
        for (int i = 0; i < 7; i++) {
            check.due("confirm " + i, x.confirm(1, 1), true);
        }
        check.due("spend", x.spend(), 16);
        check.due("confirm the eighth", x.confirm(Check.h(SIGNATURE), Check.h(KEY)), true);
        check.due("spend", x.spend(), 0);
        check.due("confirm a ninth", x.confirm(Check.h(SIGNATURE), 9), false);
        check.due("clear(0)", x.clear(0), true);
        check.due("clear(1)", x.clear(1), true);
        Check.feed(x, 0, Check.push(SIGNATURE) + " " + Check.push(KEY));
        Check.feed(x, 1, "173 81");
        check.due("spend: clear() leaves the table", x.spend(), 0);

        SpendScript full = Check.fed(Check.push(SIGNATURE) + " " + Check.push(KEY), "172");
        for (int i = 0; i < 8; i++) {
            check.due("confirm " + i, full.confirm(i, i), true);
        }
        check.due("confirm a ninth", full.confirm(Check.h(SIGNATURE), Check.h(KEY)), false);
        check.due("spend: a pair that was refused is not there", full.spend(), 16);
    }

    private static String signature(int n, String rest) {
        return "48 " + (n - 3) + " 2 " + (n - 5) + " " + rest;
    }

    private static void formed(String signature, boolean well) {
        String want = well ? "0 at -1 in 1 done 3: [1]" : "16 at 1 in 1 done 3: [e]";
        check.spend(Check.push(signature) + " " + Check.push(KEY), "172", want, signature, KEY);
    }

    private static void wellFormed() {
        for (int n = 6; n <= 32; n++) {
            formed(signature(n, "127" + " 9".repeat(n - 5)), true);
            formed(signature(n, "1" + " 255".repeat(n - 5)), true);
            formed(signature(n, "128" + " 9".repeat(n - 5)), false);
            formed(signature(n, "255" + " 9".repeat(n - 5)), false);
            formed(signature(n, "0" + " 128".repeat(n - 5)), n > 6);
            formed(signature(n, "0" + " 127".repeat(n - 5)), false);
            formed("49 " + (n - 3) + " 2 " + (n - 5) + " 1" + " 9".repeat(n - 5), false);
            formed("48 " + (n - 2) + " 2 " + (n - 5) + " 1" + " 9".repeat(n - 5), false);
            formed("48 " + (n - 4) + " 2 " + (n - 5) + " 1" + " 9".repeat(n - 5), false);
            formed("48 " + (n - 3) + " 3 " + (n - 5) + " 1" + " 9".repeat(n - 5), false);
            formed("48 " + (n - 3) + " 2 " + (n - 4) + " 1" + " 9".repeat(n - 5), false);
            formed("48 " + (n - 3) + " 2 " + (n - 6) + " 1" + " 9".repeat(n - 5), false);
        }
        formed("48 2 2 0 1", false);
        formed("48 1 2 255", false);
        formed("48 4 2 2 0 128 0", true);
        formed("48 4 2 2 0 0 0", false);
    }

    private static final String S1 = "48 3 2 1 1 1";
    private static final String S2 = "48 3 2 1 2 1";
    private static final String S3 = "48 3 2 1 3 1";
    private static final String K1 = "31 1";
    private static final String K2 = "32 2";
    private static final String K3 = "33 3";
    private static final String K4 = "34 4";

    /** The items from the bottom on: 10, one more, signatures, their number, keys, their number. */
    private static String stack(String[] signatures, String[] keys) {
        StringBuilder pushes = new StringBuilder("90 0");
        for (String signature : signatures) {
            pushes.append(' ').append(Check.push(signature));
        }
        pushes.append(' ').append(signatures.length == 0 ? 0 : 80 + signatures.length);
        for (String key : keys) {
            pushes.append(' ').append(Check.push(key));
        }
        return pushes.append(' ').append(keys.length == 0 ? 0 : 80 + keys.length).toString();
    }

    private static void several(String[] signatures, String[] keys, boolean valid, String... pairs) {
        int done = signatures.length + keys.length + 5;
        String want = valid ? "0 at -1 in 1 done " + done + ": [1 10]" : "16 at 1 in 1 done " + done + ": [e 10]";
        check.spend(stack(signatures, keys), "174", want, pairs);
    }

    private static String[] row(String... items) {
        return items;
    }

    private static void severalSignatures() {
        String[] pairs = {S1, K1, S2, K2, S3, K3};
        several(row(), row(), true);
        several(row(), row(K1, K2), true, pairs);
        several(row(S1), row(K1), true, pairs);
        several(row(S2), row(K1), false, pairs);
        several(row(S1), row(K1, K2, K3, K4), true, pairs);
        several(row(S3), row(K1, K2, K3), true, pairs);
        several(row(S1, S2), row(K1, K2), true, pairs);
        several(row(S2, S1), row(K1, K2), false, pairs);
        several(row(S1, S3), row(K1, K2, K3), true, pairs);
        several(row(S3, S1), row(K1, K2, K3), false, pairs);
        several(row(S1, S2, S3), row(K1, K2, K3), true, pairs);
        several(row(S1, S2, S3), row(K1, K2, K4, K3), true, pairs);
        several(row(S1, S2, S3), row(K4, K1, K2, K3), true, pairs);
        several(row(S1, S2, S3), row(K1, K3, K2), false, pairs);
        several(row(S1, S2, ""), row(K1, K2, K3), false, pairs);
        several(row("", S2), row(K1, K2, K3), false, pairs);
        several(row(S1, S2, S3, S1), row(K1, K2, K3, K1), true, pairs);
    }

    private static void orderOfKeys() {
        // No key serves two signatures; the top signature has the key that is higher.
        several(row(S1, S1), row(K1, K2), false, S1, K1, S1, K1);
        several(row(S1, S1), row(K1, K1), true, S1, K1);
        several(row(S1, S1), row(K1, K2), false, S1, K1);
        several(row(S1, S2), row(K1, K2), true, S1, K1, S1, K2, S2, K2);
        several(row(S1, S2), row(K1, K2), false, S1, K2, S2, K1);
        several(row(S1, S2), row(K1, K2, K3), true, S2, K3, S2, K2, S1, K2);
        several(row(S1, S2), row(K1, K2, K3), false, S2, K2, S1, K2, S1, K3);
    }

    private static void whatIsNoKeyAndNoSignature() {
        // The number of keys is no key, and the item below the signatures no signature.
        several(row(S1), row(K2), false, S1, "1");
        several(row(S1), row(K2, K3), false, S1, "2");
        String[] pairs = {S1, K1, S2, K2};
        check.spend("90 " + Check.push(S1) + " " + Check.push(S2) + " 81 " + Check.push(K1) + " " + Check.push(K2) + " 82", "174",
            "0 at -1 in 1 done 8: [1 10]", pairs);
        check.spend("90 " + Check.push(S1) + " 0 " + Check.push(K1) + " 81", "174", "0 at -1 in 1 done 6: [1 10]", pairs);
    }

    private static void faultsOfSeveral() {
        String two = Check.push(S1) + " " + Check.push(K1);
        check.spend("", "174", "11 at 0 in 1 done 0: []");
        check.spend("5 7x5", "174", "12 at 0 in 1 done 1: [7.7.7.7.7]");
        check.spend("79", "174", "13 at 0 in 1 done 1: [129]");
        check.spend("85", "174", "13 at 0 in 1 done 1: [5]");
        check.spend("0x7 85", "174", "13 at 0 in 1 done 8: [5 e e e e e e e]");
        check.spend("0x7 84", "174", "0 at -1 in 1 done 9: [1 e]");
        check.spend("0x6 84", "174", "0 at -1 in 1 done 8: [1]");
        check.spend("0x5 84", "174", "11 at 0 in 1 done 6: [4 e e e e e]");
        check.spend("0", "174", "11 at 0 in 1 done 1: [e]");
        check.spend("0 0", "174", "11 at 0 in 1 done 2: [e e]");
        check.spend("0 0 0", "174", "0 at -1 in 1 done 4: [1]");
        // Keys that are missing, and then the number of signatures.
        check.spend("81", "174", "11 at 0 in 1 done 1: [1]");
        check.spend("79 81", "174", "11 at 0 in 1 done 2: [1 129]");
        check.spend("5 7x5 96 81", "174", "12 at 0 in 1 done 3: [1 16 7.7.7.7.7]");
        check.spend("79 96 81", "174", "13 at 0 in 1 done 3: [1 16 129]");
        check.spend("82 96 81", "174", "13 at 0 in 1 done 3: [1 16 2]");
        check.spend("81 0", "174", "13 at 0 in 1 done 2: [e 1]");
        check.spend("81 96 81", "174", "11 at 0 in 1 done 3: [1 16 1]");
        check.spend("95 81 96 81", "174", "11 at 0 in 1 done 4: [1 16 1 15]");
        check.spend("94 95 81 96 81", "174", "16 at 1 in 1 done 6: [e]");
        check.spend("94 95 84 96x4 84", "174", "11 at 0 in 1 done 8: [4 16 16 16 16 4 15 14]");
        // Numbers in longer forms are numbers too.
        check.spend("0 2 0 0 2 2 3 2 2 3 4 2 0 0 0", "174", "0 at -1 in 1 done 6: [1]");
        check.spend("82 0 2 0 128 3 0 0 0", "174", "0 at -1 in 1 done 5: [1 2]");
        check.spend("90 " + two, "107 0 124 81 108 81 174", "0 at -1 in 1 done 10: [1 10]", S1, K1);
    }
}
