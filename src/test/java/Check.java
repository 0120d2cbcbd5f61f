import java.util.StringJoiner;
import java.util.stream.IntStream;

/** What the tests share: answers are compared, wrong ones printed and counted. */
final class Check {
    private String sentence = "";
    private int wrong = 0;
    private int looked = 0;

    /** The words of the document that the answers from here on are due to; told with each that is wrong. */
    void sentence(String words) {
        sentence = "\"" + words + "\": ";
    }

    void due(String call, Object got, Object want) {
        looked++;
        if (!got.equals(want)) {
            wrong++;
            System.out.println(sentence + call + " answered " + got + ", due is " + want);
        }
    }

    /**
     * Spends on a new object with a table of signatures and keys by turns, and again on the same one: the
     * second time must be like the first.
     */
    void spend(String unlocking, String locking, String want, String... pairs) {
        SpendScript x = fed(unlocking, locking);
        String call = "spend of <" + unlocking + "> <" + locking + ">";
        for (int i = 0; i + 1 < pairs.length; i += 2) {
            due("confirm before " + call, x.confirm(h(pairs[i]), h(pairs[i + 1])), true);
        }
        for (int i = 0; i < 2; i++) {
            int fault = x.spend();
            due(call, outcome(x), want);
            due(call + " (its answer)", fault, x.result());
        }
    }

    void finish() {
        System.out.println(looked + " answers, " + wrong + " wrong");
        if (wrong != 0) {
            System.exit(1);
        }
    }

    static SpendScript fed(String unlocking, String locking) {
        SpendScript x = new SpendScript();
        feed(x, 0, unlocking);
        feed(x, 1, locking);
        return x;
    }

    static void feed(SpendScript x, int which, String script) {
        for (int b : bytes(script)) {
            if (!x.feed(which, b)) {
                throw new IllegalArgumentException("too long a script: " + script);
            }
        }
    }

    /** Makes both scripts anew; what the object holds beside them stays. */
    static void feedAnew(SpendScript x, String unlocking, String locking) {
        x.clear(0);
        x.clear(1);
        feed(x, 0, unlocking);
        feed(x, 1, locking);
    }

    /** Bytes with spaces between; 81x30 stands for thirty bytes 81. */
    static int[] bytes(String script) {
        IntStream.Builder bytes = IntStream.builder();
        for (String word : script.trim().split(" +")) {
            if (word.isEmpty()) {
                continue;
            }
            String[] parts = word.split("x");
            int times = parts.length == 2 ? Integer.parseInt(parts[1]) : 1;
            for (int i = 0; i < times; i++) {
                bytes.add(Integer.parseInt(parts[0]));
            }
        }
        return bytes.build().toArray();
    }

    /** The h of the document's digest. */
    static int h(String bytes) {
        int h = 17;
        for (int b : bytes(bytes)) {
            h = h * 31 + b;
        }
        return h;
    }

    /** The item that is the digest, as items() tells it. */
    static String digest(String bytes) {
        int h = h(bytes);
        return (h & 255) + "." + (h >> 8 & 255) + "." + (h >> 16 & 255) + "." + (h >> 24 & 255);
    }

    static String push(String bytes) {
        int length = bytes(bytes).length;
        return length == 0 ? "0" : length + " " + bytes;
    }

    /** A locking script of the form "digest of a script". */
    static String lock(String script) {
        return "169 4 " + digest(script).replace('.', ' ') + " 135";
    }

    /** Result, place of the fault, script that ended, number done, and the items. */
    static String outcome(SpendScript x) {
        return x.result() + " at " + x.faultAt() + " in " + x.ended() + " done " + x.done() + ": " + items(x);
    }

    /** The items from the top on, their bytes with points between, e for the empty one. */
    static String items(SpendScript x) {
        StringJoiner items = new StringJoiner(" ", "[", "]");
        int count = x.items();
        for (int k = 0; k < count; k++) {
            StringJoiner bytes = new StringJoiner(".");
            bytes.setEmptyValue("e");
            int length = x.itemLength(k);
            for (int i = 0; i < length; i++) {
                bytes.add(Integer.toString(x.itemByte(k, i)));
            }
            items.add(bytes.toString());
        }
        return items.toString();
    }
}
