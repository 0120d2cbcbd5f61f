import java.io.ByteArrayOutputStream;
import java.util.Map;
import java.util.Random;
import java.util.StringJoiner;
import java.util.TreeMap;

/** Promises 7 to 14 on many scripts: the program's answers against those of the model. */
public final class ModelTest {
    private static final Check check = new Check();
    private static final int ROUNDS = 60_000;
    /** What an object answers behind its 512th call is free. */
    private static final int MOST_CALLS = 512;
    private static final byte[][] SIGNATURES = {
        {48, 3, 2, 1, 1, 1}, {48, 3, 2, 1, 2, 1}, {48, 4, 2, 2, 0, -128, 9}, {48, 3, 2, 1, -1, 1}, {48, 3, 2, 1, 3}};
    private static final byte[][] KEYS = {{31, 1}, {32, 2}, {33, 3}, {}};

    /** The seed is fixed, so that the runs are the same each time. */
    private final Random random = new Random(20261115);
    private final Map<Integer, Integer> faults = new TreeMap<>();

    public static void main(String[] args) {
        ModelTest test = new ModelTest();
        for (int i = 0; i < ROUNDS; i++) {
            test.round();
        }
        System.out.println("spendings by fault: " + test.faults);
        for (int fault : new int[] {0, 2, 3, 5, 6, 7, 8, 9, 10, 11, 12, 13, 14, 15, 16}) {
            check.due("spendings with fault " + fault + " are many", test.faults.getOrDefault(fault, 0) >= 50, true);
        }
        check.finish();
    }

    /** Several spendings on one object, so that what one leaves behind would be seen in the next. */
    private void round() {
        SpendScript x = new SpendScript();
        Model model = new Model();
        int calls = random.nextInt(9);
        for (int i = 0; i < calls; i++) {
            int signature = Model.h(SIGNATURES[random.nextInt(SIGNATURES.length)]);
            int key = Model.h(KEYS[random.nextInt(KEYS.length)]);
            check.due("confirm", x.confirm(signature, key), true);
            model.table.add(new int[] {signature, key});
        }
        for (int i = 0; i < 3; i++) {
            byte[] unlocking = unlocking();
            byte[] locking = random.nextInt(5) == 0 ? lockOf(unlocking) : script(random.nextInt(40), true);
            int want = model.spend(unlocking, locking);
            calls += 3 + unlocking.length + locking.length + callsToLookAt(model);
            if (calls > MOST_CALLS) {
                return;
            }
            feed(x, 0, unlocking);
            feed(x, 1, locking);
            faults.merge(want, 1, Integer::sum);
            String call = "spend of <" + text(unlocking, " ") + "> <" + text(locking, " ") + ">";
            check.due(call, x.spend(), want);
            check.due(call, Check.outcome(x), outcome(model));
        }
    }

    private static int callsToLookAt(Model model) {
        return 5 + model.stack.size() + model.stack.stream().mapToInt(item -> item.length).sum();
    }

    private static void feed(SpendScript x, int which, byte[] script) {
        x.clear(which);
        for (byte b : script) {
            x.feed(which, b);
        }
    }

    private static String outcome(Model model) {
        StringJoiner items = new StringJoiner(" ", "[", "]");
        for (byte[] item : model.stack) {
            items.add(item.length == 0 ? "e" : text(item, "."));
        }
        return model.result + " at " + model.faultAt + " in " + model.ended + " done " + model.done + ": " + items;
    }

    private static String text(byte[] bytes, String between) {
        StringJoiner text = new StringJoiner(between);
        for (byte b : bytes) {
            text.add(Integer.toString(b & 255));
        }
        return text.toString();
    }

    private byte[] unlocking() {
        ByteArrayOutputStream out = new ByteArrayOutputStream();
        out.writeBytes(script(random.nextInt(random.nextInt(10) == 0 ? 40 : 12), false));
        if (random.nextInt(3) == 0) {
            signatures(out);
        }
        if (random.nextInt(2) == 0) {
            byte[] last = script(random.nextInt(12), true);
            push(out, last.length > 32 ? new byte[0] : last);
        }
        byte[] all = out.toByteArray();
        return all.length > 120 ? java.util.Arrays.copyOf(all, 120) : all;
    }

    /** What operation 174 takes, or nearly so. */
    private void signatures(ByteArrayOutputStream out) {
        int keys = random.nextInt(5);
        int signatures = random.nextInt(keys + 1);
        out.write(0);
        for (int i = 0; i < signatures; i++) {
            push(out, SIGNATURES[random.nextInt(SIGNATURES.length)]);
        }
        push(out, Model.item(signatures));
        for (int i = 0; i < keys; i++) {
            push(out, KEYS[random.nextInt(KEYS.length)]);
        }
        push(out, Model.item(random.nextInt(20) == 0 ? 5 : keys));
    }

    private static void push(ByteArrayOutputStream out, byte[] item) {
        if (item.length == 1 && item[0] >= 1 && item[0] <= 16) {
            out.write(80 + item[0]);
        } else {
            out.write(item.length);
            out.writeBytes(item);
        }
    }

    /** The lock by digest for the item that the script pushes last, as far as that is easily found. */
    private byte[] lockOf(byte[] unlocking) {
        Model model = new Model();
        model.spend(unlocking, new byte[0]);
        int h = model.stack.isEmpty() ? 17 : Model.h(model.stack.get(0));
        if (random.nextInt(10) == 0) {
            h++;
        }
        return new byte[] {(byte) 169, 4, (byte) h, (byte) (h >> 8), (byte) (h >> 16), (byte) (h >> 24), (byte) 135};
    }

    private byte[] script(int steps, boolean operations) {
        ByteArrayOutputStream out = new ByteArrayOutputStream();
        boolean manyOperations = random.nextInt(4) == 0;
        boolean deep = random.nextInt(8) == 0;
        int open = 0;
        for (int i = 0; i < steps; i++) {
            if (operations && random.nextInt(manyOperations ? 10 : 2) > 0 || operations && i % 3 == 2) {
                int b = deep && random.nextInt(2) == 0 ? 99 : operation(open);
                open += b == 99 || b == 100 ? 1 : b == 104 ? -1 : 0;
                out.write(b);
            } else {
                somePush(out);
            }
        }
        for (int i = random.nextInt(20) == 0 ? 1 : 0; i < open; i++) {
            out.write(104);
        }
        byte[] all = out.toByteArray();
        return all.length > 120 ? java.util.Arrays.copyOf(all, 120) : all;
    }

    private int operation(int open) {
        int kind = random.nextInt(60);
        if (kind == 0) {
            return random.nextInt(256);
        }
        if (kind <= 8) {
            return new int[] {99, 100, 103, 104, 103, 104}[random.nextInt(open > 0 ? 6 : 2)];
        }
        if (kind <= 22) {
            return new int[] {118, 110, 120, 116, 107, 125, 97}[random.nextInt(7)];
        }
        int b = Model.operations().get(random.nextInt(Model.operations().size()));
        return b == 103 || b == 104 ? (random.nextInt(5) == 0 ? b : 97) : b;
    }

    private void somePush(ByteArrayOutputStream out) {
        switch (random.nextInt(12)) {
            case 0 -> out.write(0);
            case 1 -> out.write(79);
            case 2, 3, 4, 5 -> out.write(81 + random.nextInt(4));
            case 6 -> out.write(81 + random.nextInt(16));
            case 7 -> push(out, KEYS[random.nextInt(KEYS.length)]);
            case 8 -> push(out, SIGNATURES[random.nextInt(SIGNATURES.length)]);
            case 9 -> push(out, Model.item(random.nextInt()));
            case 10 -> {
                byte[] item = new byte[random.nextInt(6)];
                for (int i = 0; i < item.length; i++) {
                    item[i] = new byte[] {0, -128, 1, 127, -1}[random.nextInt(5)];
                }
                out.write(item.length);
                out.writeBytes(item);
            }
            default -> out.write(random.nextInt(20) == 0 ? random.nextInt(97) : 82);
        }
    }
}
