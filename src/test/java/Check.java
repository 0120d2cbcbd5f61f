import java.util.StringJoiner;

/** What the tests share: answers are compared, wrong ones printed and counted. */
final class Check {
    private int wrong = 0;
    private int looked = 0;

    void due(String call, Object got, Object want) {
        looked++;
        if (!got.equals(want)) {
            wrong++;
            System.out.println(call + " answered " + got + ", due is " + want);
        }
    }

    /** Spends on a new object, and again on the same one: the second time must be like the first. */
    void spend(String unlocking, String locking, String want) {
        SpendScript x = fed(unlocking, locking);
        String call = "spend of <" + unlocking + "> <" + locking + ">";
        for (int i = 0; i < 2; i++) {
            int fault = x.spend();
            due(call, outcome(x), want);
            due(call + " (its answer)", fault, x.result());
        }
    }

    void finish() {
        System.out.println(looked + " answers, " + wrong + " wrong");
        if (wrong != 0) {
            System.exit(1);
        }
    }

    static SpendScript fed(String unlocking, String locking) {
        SpendScript x = new SpendScript();
        feed(x, 0, unlocking);
        feed(x, 1, locking);
        return x;
    }

    /** Bytes with spaces between; 81x30 stands for thirty bytes 81. */
    static void feed(SpendScript x, int which, String script) {
        for (String word : script.trim().split(" +")) {
            if (word.isEmpty()) {
                continue;
            }
            String[] parts = word.split("x");
            int times = parts.length == 2 ? Integer.parseInt(parts[1]) : 1;
            for (int i = 0; i < times; i++) {
                if (!x.feed(which, Integer.parseInt(parts[0]))) {
                    throw new IllegalArgumentException("too long a script: " + script);
                }
            }
        }
    }

    /** Result, place of the fault, script that ended, number done, and the items. */
    static String outcome(SpendScript x) {
        return x.result() + " at " + x.faultAt() + " in " + x.ended() + " done " + x.done() + ": " + items(x);
    }

    /** The items from the top on, their bytes with points between, e for the empty one. */
    static String items(SpendScript x) {
        StringJoiner items = new StringJoiner(" ", "[", "]");
        int count = x.items();
        for (int k = 0; k < count; k++) {
            StringJoiner bytes = new StringJoiner(".");
            bytes.setEmptyValue("e");
            int length = x.itemLength(k);
            for (int i = 0; i < length; i++) {
                bytes.add(Integer.toString(x.itemByte(k, i)));
            }
            items.add(bytes.toString());
        }
        return items.toString();
    }
}
