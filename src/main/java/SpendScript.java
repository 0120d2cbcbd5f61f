/**
 * Decides whether what a script has locked may be spent with another script.
 *
 * <p>All rows are made in the constructors and used again, so that no call makes an object.
 */
public final class SpendScript {
    private static final int NONE = -1;
    private static final int UNLOCKING = 0;
    private static final int LOCKING = 1;
    private static final int FROM_STACK = 2;
    private static final int SCRIPT_BYTES = 120;
    private static final int ITEM_BYTES = 32;
    private static final int MOST_ITEMS = 30;

    private final ByteString unlocking;
    private final ByteString locking;
    private final ByteString fromStack;
    private final SignatureTable table;
    private final ItemStack stack;
    private final ItemStack leftByUnlocking;
    private final Machine machine;
    private int latestFault;
    private int latestScript;
    private int latestPlace;

    public SpendScript() {
        unlocking = new ByteString(SCRIPT_BYTES);
        locking = new ByteString(SCRIPT_BYTES);
        fromStack = new ByteString(ITEM_BYTES);
        table = new SignatureTable();
        stack = new ItemStack();
        leftByUnlocking = new ItemStack();
        machine = new Machine(stack, table);
        latestFault = NONE;
        latestScript = NONE;
        latestPlace = NONE;
    }

    public boolean feed(int which, int b) {
        return isFed(which) && scriptAt(which).append(b);
    }

    public int length(int which) {
        return isFed(which) ? scriptAt(which).size() : NONE;
    }

    public boolean clear(int which) {
        if (!isFed(which)) {
            return false;
        }
        scriptAt(which).makeEmpty();
        return true;
    }

    public boolean confirm(int signature, int key) {
        return table.add(signature, key);
    }

    public int digest(int which, int from, int n) {
        if (!isFed(which) || !scriptAt(which).hasPart(from, n)) {
            return 0;
        }
        return scriptAt(which).hash(from, n);
    }

    public int spend() {
        machine.restart();
        latestScript = UNLOCKING;
        int fault = machine.run(unlocking, true);
        if (fault == Fault.NO_FAULT) {
            leftByUnlocking.becomeCopyOf(stack);
            latestScript = LOCKING;
            fault = machine.run(locking, false);
        }
        if (fault == Fault.NO_FAULT) {
            fault = truthFault();
        }
        if (fault == Fault.NO_FAULT && locksByDigest()) {
            takeScriptFromStack();
            latestScript = FROM_STACK;
            fault = machine.run(fromStack, false);
            if (fault == Fault.NO_FAULT) {
                fault = truthFault();
            }
        }
        latestFault = fault;
        latestPlace = fault == Fault.NO_FAULT ? NONE : machine.place();
        return fault;
    }

    public int result() {
        return latestFault;
    }

    public int ended() {
        return latestScript;
    }

    public int faultAt() {
        return latestPlace;
    }

    public int done() {
        return machine.doneCount();
    }

    public int items() {
        return stack.size();
    }

    public int itemLength(int k) {
        return stack.has(k) ? stack.item(k).size() : NONE;
    }

    public int itemByte(int k, int i) {
        return stack.item(k).byteAt(i);
    }

    private static boolean isFed(int which) {
        return which == UNLOCKING || which == LOCKING;
    }

    private ByteString scriptAt(int which) {
        return which == UNLOCKING ? unlocking : locking;
    }

    private int truthFault() {
        return stack.item(0).isTrue() ? Fault.NO_FAULT : Fault.NOT_TRUE;
    }

    private void takeScriptFromStack() {
        stack.becomeCopyOf(leftByUnlocking);
        fromStack.becomeCopyOf(stack.item(0));
        stack.drop(1);
    }

    private boolean locksByDigest() {
        return locking.size() == 7
                && locking.byteAt(0) == 169
                && locking.byteAt(1) == 4
                && locking.byteAt(6) == 135;
    }

    /** The document's fault numbers. */
    private static final class Fault {
        static final int NO_FAULT = 0;
        static final int BAD_BYTE = 2;
        static final int BYTES_MISSING = 3;
        static final int PUSH_NOT_SHORTEST = 5;
        static final int TOO_MANY_OPERATIONS = 6;
        static final int BRANCHES_UNEVEN = 7;
        static final int TOO_MANY_BRANCHES = 8;
        static final int NOT_VERIFIED = 9;
        static final int REFUSED = 10;
        static final int ITEM_MISSING = 11;
        static final int NUMBER_TOO_LONG = 12;
        static final int NUMBER_OUT_OF_RANGE = 13;
        static final int TOO_MANY_ITEMS = 14;
        static final int NOT_A_PUSH = 15;
        static final int NOT_TRUE = 16;

        private Fault() {
        }
    }

    /** A script or an item: bytes 0 .. 255, up to a capacity. */
    private static final class ByteString {
        private static final int LONGEST_NUMBER = 4;
        private static final int LONGEST_PUSHED_NUMBER = 5;

        private final int[] bytes;
        private int size;

        ByteString(int capacity) {
            bytes = new int[capacity];
            size = 0;
        }

        int size() {
            return size;
        }

        int byteAt(int i) {
            return i >= 0 && i < size ? bytes[i] : NONE;
        }

        void makeEmpty() {
            size = 0;
        }

        boolean append(int b) {
            if (size >= bytes.length) {
                return false;
            }
            bytes[size] = b & 255;
            size++;
            return true;
        }

        boolean hasPart(int from, int n) {
            // The sum of from and n could wrap, the difference can't.
            return from >= 0 && n >= 0 && n <= size && from <= size - n;
        }

        void becomeCopyOf(ByteString other) {
            size = Math.min(other.size, bytes.length);
            System.arraycopy(other.bytes, 0, bytes, 0, size);
        }

        void becomePartOf(ByteString other, int from, int n) {
            size = 0;
            if (other.hasPart(from, n) && n <= bytes.length) {
                System.arraycopy(other.bytes, from, bytes, 0, n);
                size = n;
            }
        }

        boolean sameBytesAs(ByteString other) {
            if (size != other.size) {
                return false;
            }
            for (int i = 0; i < size; i++) {
                if (bytes[i] != other.bytes[i]) {
                    return false;
                }
            }
            return true;
        }

        int hash(int from, int n) {
            int h = 17;
            for (int i = 0; i < size; i++) {
                if (i >= from && i - from < n) {
                    h = h * 31 + bytes[i];
                }
            }
            return h;
        }

        void becomeDigest(int h) {
            size = 0;
            for (int shift = 0; shift < 32; shift += 8) {
                append(h >>> shift);
            }
        }

        boolean isTrue() {
            for (int i = 0; i < size; i++) {
                boolean onlyASign = i == size - 1 && bytes[i] == 128;
                if (bytes[i] != 0 && !onlyASign) {
                    return true;
                }
            }
            return false;
        }

        boolean isNumber() {
            return size <= LONGEST_NUMBER;
        }

        long number() {
            if (size == 0 || !isNumber()) {
                return 0;
            }
            long value = bytes[size - 1] & 127;
            for (int i = size - 2; i >= 0; i--) {
                value = value * 256 + bytes[i];
            }
            return bytes[size - 1] >= 128 ? -value : value;
        }

        void becomeNumber(long value) {
            size = 0;
            long rest = Math.abs(value);
            int last = 0;
            for (int i = 0; i < LONGEST_PUSHED_NUMBER && rest > 0; i++) {
                last = (int) (rest & 255);
                append(last);
                rest >>= 8;
            }
            int sign = value < 0 ? 128 : 0;
            if (last >= 128) {
                // The highest bit belongs to the value here, so the sign needs a byte of its own.
                append(sign);
            } else if (size > 0) {
                bytes[size - 1] = last | sign;
            }
        }

        boolean isWellFormedSignature() {
            if (size < 6 || size > ITEM_BYTES) {
                return false;
            }
            if (bytes[0] != 48 || bytes[1] != size - 3 || bytes[2] != 2 || bytes[3] != size - 5) {
                return false;
            }
            if (bytes[4] == 0) {
                return size > 6 && bytes[5] >= 128;
            }
            return bytes[4] <= 127;
        }
    }

    /** Items by their depth: 0 is the top. The rows above the top are kept to be used again. */
    private static final class ItemStack {
        private final ByteString[] rows;
        private final ByteString nothing;
        private int size;

        ItemStack() {
            rows = new ByteString[MOST_ITEMS];
            for (int i = 0; i < MOST_ITEMS; i++) {
                rows[i] = new ByteString(ITEM_BYTES);
            }
            nothing = new ByteString(0);
            size = 0;
        }

        int size() {
            return size;
        }

        boolean has(int depth) {
            return depth >= 0 && depth < size;
        }

        /** The item, or one that is empty and stays so: nobody has to look out for null. */
        ByteString item(int depth) {
            return depth >= 0 && depth < size ? rows[size - 1 - depth] : nothing;
        }

        void makeEmpty() {
            size = 0;
        }

        void becomeCopyOf(ItemStack other) {
            size = other.size;
            for (int i = 0; i < size; i++) {
                rows[i].becomeCopyOf(other.rows[i]);
            }
        }

        /** The new top; it still holds what the row held before, so the caller has to fill it. */
        ByteString push() {
            if (size >= MOST_ITEMS) {
                return nothing;
            }
            size++;
            return rows[size - 1];
        }

        void pushCopy(int depth) {
            ByteString source = item(depth);
            push().becomeCopyOf(source);
        }

        void drop(int count) {
            size = Math.max(0, size - count);
        }

        void raise(int depth) {
            if (!has(depth)) {
                return;
            }
            ByteString raised = item(depth);
            for (int i = size - 1 - depth; i < size - 1; i++) {
                rows[i] = rows[i + 1];
            }
            rows[size - 1] = raised;
        }

        void sinkTop(int depth) {
            if (!has(depth)) {
                return;
            }
            ByteString sunk = item(0);
            for (int i = size - 1; i > size - 1 - depth; i--) {
                rows[i] = rows[i - 1];
            }
            rows[size - 1 - depth] = sunk;
        }
    }

    /** The pairs of hashes that tell which signature is valid for which key. */
    private static final class SignatureTable {
        private static final int MOST_PAIRS = 8;

        private final int[] signatures;
        private final int[] keys;
        private int count;

        SignatureTable() {
            signatures = new int[MOST_PAIRS];
            keys = new int[MOST_PAIRS];
            count = 0;
        }

        boolean add(int signature, int key) {
            if (count >= MOST_PAIRS) {
                return false;
            }
            signatures[count] = signature;
            keys[count] = key;
            count++;
            return true;
        }

        boolean isValid(ByteString signature, ByteString key) {
            if (!signature.isWellFormedSignature()) {
                return false;
            }
            int signatureHash = signature.hash(0, signature.size());
            int keyHash = key.hash(0, key.size());
            for (int i = 0; i < count; i++) {
                if (signatures[i] == signatureHash && keys[i] == keyHash) {
                    return true;
                }
            }
            return false;
        }
    }

    /** The branches that are open in the script that is run. */
    private static final class Branches {
        private static final int MOST_OPEN = 8;

        private final boolean[] active;
        private int open;

        Branches() {
            active = new boolean[MOST_OPEN];
            open = 0;
        }

        void closeAll() {
            open = 0;
        }

        boolean anyOpen() {
            return open > 0;
        }

        boolean mayOpen() {
            return open < MOST_OPEN;
        }

        boolean allActive() {
            for (int i = 0; i < open; i++) {
                if (!active[i]) {
                    return false;
                }
            }
            return true;
        }

        void openOne(boolean isActive) {
            if (mayOpen()) {
                active[open] = isActive;
                open++;
            }
        }

        void flipLast() {
            if (anyOpen()) {
                active[open - 1] = !active[open - 1];
            }
        }

        void closeLast() {
            if (anyOpen()) {
                open--;
            }
        }
    }

    /** Runs a script byte by byte: pushes, branches, and what becomes of an operation. */
    private static final class Machine {
        private static final int LAST_PUSH = 96;
        private static final int MOST_OPERATIONS = 25;

        private final ItemStack stack;
        private final ItemStack second;
        private final Branches branches;
        private final Operations operations;
        private int met;
        private int place;
        private int doneCount;

        Machine(ItemStack stack, SignatureTable table) {
            this.stack = stack;
            second = new ItemStack();
            branches = new Branches();
            operations = new Operations(stack, second, table);
            met = 0;
            place = 0;
            doneCount = 0;
        }

        void restart() {
            stack.makeEmpty();
            doneCount = 0;
        }

        /** Where the byte stands that was met last; the script's length if it came to its end. */
        int place() {
            return place;
        }

        int doneCount() {
            return doneCount;
        }

        int run(ByteString script, boolean pushesOnly) {
            second.makeEmpty();
            branches.closeAll();
            met = 0;
            int size = script.size();
            for (int at = 0; at < size; at += 1 + dataBytes(script.byteAt(at))) {
                place = at;
                int b = script.byteAt(at);
                int fault = Fault.NOT_A_PUSH;
                if (b <= LAST_PUSH) {
                    fault = meetPush(script, b);
                } else if (!pushesOnly) {
                    fault = meetOperation(b);
                }
                if (fault != Fault.NO_FAULT) {
                    return fault;
                }
            }
            place = size;
            return branches.anyOpen() ? Fault.BRANCHES_UNEVEN : Fault.NO_FAULT;
        }

        private static int dataBytes(int b) {
            return b >= 1 && b <= ITEM_BYTES ? b : 0;
        }

        private int meetPush(ByteString script, int b) {
            int fault = formFault(script, b);
            if (fault != Fault.NO_FAULT || !branches.allActive()) {
                return fault;
            }
            if (stack.size() + second.size() >= MOST_ITEMS) {
                return Fault.TOO_MANY_ITEMS;
            }
            if (b <= ITEM_BYTES) {
                stack.push().becomePartOf(script, place + 1, b);
            } else {
                stack.push().becomeNumber(b - 80);
            }
            doneCount++;
            return Fault.NO_FAULT;
        }

        private int formFault(ByteString script, int b) {
            if (b > ITEM_BYTES) {
                return b == 79 || b >= 81 ? Fault.NO_FAULT : Fault.BAD_BYTE;
            }
            if (!script.hasPart(place + 1, b)) {
                return Fault.BYTES_MISSING;
            }
            int first = script.byteAt(place + 1);
            boolean hasShorterPush = first == 129 || first >= 1 && first <= 16;
            return b == 1 && hasShorterPush ? Fault.PUSH_NOT_SHORTEST : Fault.NO_FAULT;
        }

        private int meetOperation(int b) {
            if (!Operations.isKnown(b)) {
                return Fault.BAD_BYTE;
            }
            if (met >= MOST_OPERATIONS) {
                return Fault.TOO_MANY_OPERATIONS;
            }
            met++;
            int fault;
            if (b == 99 || b == 100) {
                fault = openBranch(b == 99);
            } else if (b == 103 || b == 104) {
                fault = turnBranch(b == 104);
            } else if (branches.allActive()) {
                fault = operations.operate(b);
            } else {
                return Fault.NO_FAULT;
            }
            if (fault == Fault.NO_FAULT) {
                doneCount++;
            }
            return fault;
        }

        private int openBranch(boolean activeIfTrue) {
            if (!branches.mayOpen()) {
                return Fault.TOO_MANY_BRANCHES;
            }
            if (!branches.allActive()) {
                branches.openOne(false);
                return Fault.NO_FAULT;
            }
            if (!stack.has(0)) {
                return Fault.ITEM_MISSING;
            }
            branches.openOne(stack.item(0).isTrue() == activeIfTrue);
            stack.drop(1);
            return Fault.NO_FAULT;
        }

        private int turnBranch(boolean isItsEnd) {
            if (!branches.anyOpen()) {
                return Fault.BRANCHES_UNEVEN;
            }
            if (isItsEnd) {
                branches.closeLast();
            } else {
                branches.flipLast();
            }
            return Fault.NO_FAULT;
        }
    }

    /** The operations on the two stacks; each looks for all its faults before it changes anything. */
    private static final class Operations {
        private static final int MOST_KEYS = 4;

        private final ItemStack stack;
        private final ItemStack second;
        private final SignatureTable table;

        Operations(ItemStack stack, ItemStack second, SignatureTable table) {
            this.stack = stack;
            this.second = second;
            this.table = table;
        }

        static boolean isKnown(int b) {
            return b == 97 || b == 99 || b == 100
                    || b >= 103 && b <= 110
                    || b >= 115 && b <= 125
                    || b == 130 || b == 135 || b == 136
                    || b == 139 || b == 140
                    || b >= 143 && b <= 148
                    || b >= 154 && b <= 165
                    || b == 169
                    || b >= 172 && b <= 174;
        }

        int operate(int b) {
            if (b >= 139 && b <= 165) {
                return calculate(b);
            }
            switch (b) {
                case 97:
                    return Fault.NO_FAULT;
                case 106:
                    return Fault.REFUSED;
                case 108:
                    return fetchFromSecond();
                case 121:
                case 122:
                    return pick(b == 122);
                case 174:
                    return checkSeveralSignatures();
                default:
                    break;
            }
            int fault = itemsFault(b);
            if (fault == Fault.NO_FAULT && b <= 125) {
                arrange(b);
            } else if (fault == Fault.NO_FAULT) {
                judge(b);
            }
            return fault;
        }

        private int fetchFromSecond() {
            if (!second.has(0)) {
                return Fault.ITEM_MISSING;
            }
            stack.push().becomeCopyOf(second.item(0));
            second.drop(1);
            return Fault.NO_FAULT;
        }

        private int pick(boolean takenOut) {
            int fault = countFault(0, Integer.MAX_VALUE);
            if (fault != Fault.NO_FAULT) {
                return fault;
            }
            int depth = (int) stack.item(0).number();
            if (depth >= stack.size() - 1) {
                return Fault.ITEM_MISSING;
            }
            stack.drop(1);
            if (takenOut) {
                stack.raise(depth);
            } else {
                stack.pushCopy(depth);
            }
            return Fault.NO_FAULT;
        }

        private int countFault(int depth, int most) {
            int fault = numberFault(depth);
            if (fault != Fault.NO_FAULT) {
                return fault;
            }
            long count = stack.item(depth).number();
            return count < 0 || count > most ? Fault.NUMBER_OUT_OF_RANGE : Fault.NO_FAULT;
        }

        private int numberFault(int depth) {
            if (!stack.has(depth)) {
                return Fault.ITEM_MISSING;
            }
            return stack.item(depth).isNumber() ? Fault.NO_FAULT : Fault.NUMBER_TOO_LONG;
        }

        private int checkSeveralSignatures() {
            int fault = countFault(0, MOST_KEYS);
            if (fault != Fault.NO_FAULT) {
                return fault;
            }
            int keys = (int) stack.item(0).number();
            fault = countFault(keys + 1, keys);
            if (fault != Fault.NO_FAULT) {
                return fault;
            }
            int signatures = (int) stack.item(keys + 1).number();
            int taken = keys + signatures + 3;
            if (stack.size() < taken) {
                return Fault.ITEM_MISSING;
            }
            answer(taken, allSigned(keys, signatures));
            return Fault.NO_FAULT;
        }

        /** The highest key that fits is always as good as a deeper one, so nothing is tried twice. */
        private boolean allSigned(int keys, int signatures) {
            int signed = 0;
            for (int key = 1; key <= keys && signed < signatures; key++) {
                if (table.isValid(stack.item(keys + 2 + signed), stack.item(key))) {
                    signed++;
                }
            }
            return signed == signatures;
        }

        private int calculate(int b) {
            int count = b <= 146 ? 1 : b <= 164 ? 2 : 3;
            for (int depth = 0; depth < count; depth++) {
                int fault = numberFault(depth);
                if (fault != Fault.NO_FAULT) {
                    return fault;
                }
            }
            long x = stack.item(0).number();
            long y = stack.item(1).number();
            long z = stack.item(2).number();
            if (b == 157 && x != y) {
                return Fault.NOT_VERIFIED;
            }
            stack.drop(count);
            if (count == 1) {
                pushNumber(ofOne(b, x));
            } else if (count == 3) {
                pushNumber(oneIf(y <= z && z < x));
            } else if (b != 157) {
                pushNumber(ofTwo(b, y, x));
            }
            return Fault.NO_FAULT;
        }

        private static long ofOne(int b, long x) {
            switch (b) {
                case 139:
                    return x + 1;
                case 140:
                    return x - 1;
                case 143:
                    return -x;
                case 144:
                    return Math.abs(x);
                case 145:
                    return oneIf(x == 0);
                default:
                    return oneIf(x != 0);
            }
        }

        private static long ofTwo(int b, long y, long x) {
            switch (b) {
                case 147:
                    return y + x;
                case 148:
                    return y - x;
                case 154:
                    return oneIf(y != 0 && x != 0);
                case 155:
                    return oneIf(y != 0 || x != 0);
                case 156:
                    return oneIf(y == x);
                case 158:
                    return oneIf(y != x);
                case 159:
                    return oneIf(y < x);
                case 160:
                    return oneIf(y > x);
                case 161:
                    return oneIf(y <= x);
                case 162:
                    return oneIf(y >= x);
                case 163:
                    return Math.min(y, x);
                default:
                    return Math.max(y, x);
            }
        }

        private static int oneIf(boolean holds) {
            return holds ? 1 : 0;
        }

        private int itemsFault(int b) {
            if (stack.size() < itemsNamed(b)) {
                return Fault.ITEM_MISSING;
            }
            if (!isVerified(b)) {
                return Fault.NOT_VERIFIED;
            }
            boolean hasRoom = stack.size() + second.size() + itemsMore(b) <= MOST_ITEMS;
            return hasRoom ? Fault.NO_FAULT : Fault.TOO_MANY_ITEMS;
        }

        private static int itemsNamed(int b) {
            switch (b) {
                case 116:
                    return 0;
                case 109:
                case 110:
                case 119:
                case 120:
                case 124:
                case 125:
                case 135:
                case 136:
                case 172:
                case 173:
                    return 2;
                case 123:
                    return 3;
                default:
                    return 1;
            }
        }

        private boolean isVerified(int b) {
            switch (b) {
                case 105:
                    return stack.item(0).isTrue();
                case 136:
                    return stack.item(0).sameBytesAs(stack.item(1));
                case 173:
                    return table.isValid(stack.item(1), stack.item(0));
                default:
                    return true;
            }
        }

        /** Only those that make the stacks grow: for the others there is always room. */
        private int itemsMore(int b) {
            switch (b) {
                case 110:
                    return 2;
                case 115:
                    return oneIf(stack.item(0).isTrue());
                case 116:
                case 118:
                case 120:
                case 125:
                case 130:
                    return 1;
                default:
                    return 0;
            }
        }

        private void arrange(int b) {
            switch (b) {
                case 107:
                    second.push().becomeCopyOf(stack.item(0));
                    stack.drop(1);
                    break;
                case 109:
                    stack.drop(2);
                    break;
                case 110:
                    stack.pushCopy(1);
                    stack.pushCopy(1);
                    break;
                case 115:
                    if (stack.item(0).isTrue()) {
                        stack.pushCopy(0);
                    }
                    break;
                case 116:
                    pushNumber(stack.size());
                    break;
                case 118:
                    stack.pushCopy(0);
                    break;
                case 119:
                    stack.raise(1);
                    stack.drop(1);
                    break;
                case 120:
                    stack.pushCopy(1);
                    break;
                case 123:
                    stack.raise(2);
                    break;
                case 124:
                    stack.raise(1);
                    break;
                case 125:
                    stack.pushCopy(0);
                    stack.sinkTop(2);
                    break;
                default:
                    // 105 and 117 do no more than take x.
                    stack.drop(1);
                    break;
            }
        }

        private void judge(int b) {
            ByteString x = stack.item(0);
            ByteString y = stack.item(1);
            switch (b) {
                case 130:
                    pushNumber(x.size());
                    break;
                case 135:
                    answer(2, x.sameBytesAs(y));
                    break;
                case 169:
                    x.becomeDigest(x.hash(0, x.size()));
                    break;
                case 172:
                    answer(2, table.isValid(y, x));
                    break;
                default:
                    // 136 and 173 have verified before, so they do no more than take x and y.
                    stack.drop(2);
                    break;
            }
        }

        private void answer(int taken, boolean holds) {
            stack.drop(taken);
            stack.push().becomeNumber(oneIf(holds));
        }

        private void pushNumber(long value) {
            stack.push().becomeNumber(value);
        }
    }
}
