import java.math.BigInteger;
import java.util.ArrayList;
import java.util.Arrays;
import java.util.Collections;
import java.util.List;

/**
 * The document's terms once more, written to be plain and not to be lean: every push and operation works on
 * copies of the stacks, and a fault throws them away.
 */
final class Model {
    private static final class Fault extends Exception {
        private static final long serialVersionUID = 1L;
        final int number;

        Fault(int number) {
            this.number = number;
        }
    }

    private static final List<Integer> OPERATIONS = List.of(97, 99, 100, 103, 104, 105, 106, 107, 108, 109, 110,
        115, 116, 117, 118, 119, 120, 121, 122, 123, 124, 125, 130, 135, 136, 139, 140, 143, 144, 145, 146, 147,
        148, 154, 155, 156, 157, 158, 159, 160, 161, 162, 163, 164, 165, 169, 172, 173, 174);

    final List<int[]> table = new ArrayList<>();
    /** The top is the first. */
    List<byte[]> stack = new ArrayList<>();
    private List<byte[]> second = new ArrayList<>();
    private List<Boolean> branches = new ArrayList<>();
    int result = -1;
    int ended = -1;
    int faultAt = -1;
    int done = 0;

    static List<Integer> operations() {
        return OPERATIONS;
    }

    static int h(byte[] item) {
        BigInteger h = BigInteger.valueOf(17);
        for (byte b : item) {
            h = h.multiply(BigInteger.valueOf(31)).add(BigInteger.valueOf(b & 255));
        }
        return h.intValue();
    }

    int spend(byte[] unlocking, byte[] locking) {
        stack = new ArrayList<>();
        done = 0;
        result = 0;
        try {
            run(0, unlocking);
            List<byte[]> left = new ArrayList<>(stack);
            run(1, locking);
            truth(locking);
            if (locking.length == 7 && (locking[0] & 255) == 169 && locking[1] == 4 && (locking[6] & 255) == 135) {
                stack = left;
                byte[] third = stack.remove(0);
                run(2, third);
                truth(third);
            }
            faultAt = -1;
        } catch (Fault fault) {
            result = fault.number;
        }
        return result;
    }

    private void truth(byte[] script) throws Fault {
        faultAt = script.length;
        need(!stack.isEmpty() && isTrue(stack.get(0)), 16);
    }

    private void run(int which, byte[] script) throws Fault {
        ended = which;
        second = new ArrayList<>();
        branches = new ArrayList<>();
        int met = 0;
        int at = 0;
        while (at < script.length) {
            faultAt = at;
            int b = script[at] & 255;
            at++;
            if (b >= 97) {
                need(which != 0, 15);
                need(OPERATIONS.contains(b), 2);
                need(met < 25, 6);
                met++;
                operation(b);
                continue;
            }
            byte[] item;
            if (b <= 32) {
                need(script.length - at >= b, 3);
                item = Arrays.copyOfRange(script, at, at + b);
                at += b;
                need(b != 1 || item[0] != -127 && (item[0] < 1 || item[0] > 16), 5);
            } else {
                need(b == 79 || b > 80, 2);
                item = item(b - 80);
            }
            if (!branches.contains(false)) {
                need(stack.size() + second.size() < 30, 14);
                stack.add(0, item);
                done++;
            }
        }
        faultAt = script.length;
        need(branches.isEmpty(), 7);
    }

    private static void need(boolean holds, int fault) throws Fault {
        if (!holds) {
            throw new Fault(fault);
        }
    }

    private void operation(int b) throws Fault {
        boolean isBranch = b == 99 || b == 100 || b == 103 || b == 104;
        if (!isBranch && branches.contains(false)) {
            return;
        }
        List<byte[]> s = new ArrayList<>(stack);
        List<byte[]> t = new ArrayList<>(second);
        if (isBranch) {
            branch(b, s);
        } else {
            work(b, s, t);
        }
        need(s.size() + t.size() <= 30, 14);
        stack = s;
        second = t;
        done++;
    }

    private void branch(int b, List<byte[]> s) throws Fault {
        if (b == 99 || b == 100) {
            need(branches.size() < 8, 8);
            boolean active = !branches.contains(false) && isTrue(take(s)) == (b == 99);
            branches.add(active);
            return;
        }
        need(!branches.isEmpty(), 7);
        boolean last = branches.remove(branches.size() - 1);
        if (b == 103) {
            branches.add(!last);
        }
    }

    private static byte[] take(List<byte[]> s) throws Fault {
        need(!s.isEmpty(), 11);
        return s.remove(0);
    }

    private static byte[] look(List<byte[]> s, int depth) throws Fault {
        need(s.size() > depth, 11);
        return s.get(depth);
    }

    private static long takeNumber(List<byte[]> s) throws Fault {
        byte[] item = take(s);
        need(item.length <= 4, 12);
        long value = 0;
        for (int i = 0; i < item.length; i++) {
            boolean isLast = i == item.length - 1;
            value |= (long) (item[i] & (isLast ? 127 : 255)) << 8 * i;
        }
        return item.length > 0 && item[item.length - 1] < 0 ? -value : value;
    }

    private static int takeCount(List<byte[]> s, int most) throws Fault {
        long count = takeNumber(s);
        need(count >= 0 && count <= most, 13);
        return (int) count;
    }

    static byte[] item(long number) {
        if (number == 0) {
            return new byte[0];
        }
        byte[] value = BigInteger.valueOf(Math.abs(number)).toByteArray();
        if (number < 0) {
            value[0] |= -128;
        }
        for (int i = 0; i < value.length / 2; i++) {
            byte b = value[i];
            value[i] = value[value.length - 1 - i];
            value[value.length - 1 - i] = b;
        }
        return value;
    }

    private static boolean isTrue(byte[] item) {
        byte[] rest = item.clone();
        if (rest.length > 0 && rest[rest.length - 1] == -128) {
            rest[rest.length - 1] = 0;
        }
        return !Arrays.equals(rest, new byte[rest.length]);
    }

    private void work(int b, List<byte[]> s, List<byte[]> t) throws Fault {
        switch (b) {
            case 97 -> { }
            case 105 -> need(isTrue(take(s)), 9);
            case 106 -> need(false, 10);
            case 107 -> t.add(0, take(s));
            case 108 -> s.add(0, take(t));
            case 109 -> {
                take(s);
                take(s);
            }
            case 110 -> {
                look(s, 1);
                s.addAll(0, List.of(s.get(0), s.get(1)));
            }
            case 115 -> {
                if (isTrue(look(s, 0))) {
                    s.add(0, s.get(0));
                }
            }
            case 116 -> s.add(0, item(s.size()));
            case 117 -> take(s);
            case 118 -> s.add(0, look(s, 0));
            case 119 -> s.remove(look(s, 1) == null ? 0 : 1);
            case 120 -> s.add(0, look(s, 1));
            case 121 -> {
                int n = takeCount(s, Integer.MAX_VALUE);
                s.add(0, look(s, n));
            }
            case 122 -> {
                int n = takeCount(s, Integer.MAX_VALUE);
                look(s, n);
                s.add(0, s.remove(n));
            }
            case 123 -> {
                look(s, 2);
                s.add(0, s.remove(2));
            }
            case 124 -> {
                look(s, 1);
                Collections.swap(s, 0, 1);
            }
            case 125 -> {
                look(s, 1);
                s.add(2, s.get(0));
            }
            case 130 -> s.add(0, item(look(s, 0).length));
            case 135 -> s.add(0, flag(Arrays.equals(take(s), take(s))));
            case 136 -> need(Arrays.equals(take(s), take(s)), 9);
            case 169 -> {
                int h = h(take(s));
                s.add(0, new byte[] {(byte) h, (byte) (h >> 8), (byte) (h >> 16), (byte) (h >> 24)});
            }
            case 172 -> s.add(0, flag(valid(take(s), take(s))));
            case 173 -> need(valid(take(s), take(s)), 9);
            case 174 -> several(s);
            default -> reckon(b, s);
        }
    }

    private static byte[] flag(boolean holds) {
        return item(holds ? 1 : 0);
    }

    private static void reckon(int b, List<byte[]> s) throws Fault {
        long x = takeNumber(s);
        long y = b >= 147 ? takeNumber(s) : 0;
        long z = b == 165 ? takeNumber(s) : 0;
        if (b == 157) {
            need(x == y, 9);
            return;
        }
        s.add(0, switch (b) {
            case 139 -> item(x + 1);
            case 140 -> item(x - 1);
            case 143 -> item(-x);
            case 144 -> item(x < 0 ? -x : x);
            case 145 -> flag(x == 0);
            case 146 -> flag(x != 0);
            case 147 -> item(y + x);
            case 148 -> item(y - x);
            case 154 -> flag(x != 0 && y != 0);
            case 155 -> flag(x != 0 || y != 0);
            case 156 -> flag(x == y);
            case 158 -> flag(x != y);
            case 159 -> flag(y < x);
            case 160 -> flag(y > x);
            case 161 -> flag(y <= x);
            case 162 -> flag(y >= x);
            case 163 -> item(y < x ? y : x);
            case 164 -> item(y > x ? y : x);
            case 165 -> flag(y <= z && z < x);
            default -> throw new IllegalStateException("operation " + b);
        });
    }

    private void several(List<byte[]> s) throws Fault {
        int n = takeCount(s, 4);
        List<byte[]> keys = new ArrayList<>();
        for (int i = 0; i < n; i++) {
            keys.add(take(s));
        }
        int m = takeCount(s, n);
        List<byte[]> signatures = new ArrayList<>();
        for (int i = 0; i < m; i++) {
            signatures.add(take(s));
        }
        take(s);
        s.add(0, flag(someKeysFit(signatures, keys)));
    }

    /** Tries every choice of keys. */
    private boolean someKeysFit(List<byte[]> signatures, List<byte[]> keys) {
        if (signatures.isEmpty()) {
            return true;
        }
        for (int i = 0; i < keys.size(); i++) {
            if (valid(keys.get(i), signatures.get(0))
                && someKeysFit(signatures.subList(1, signatures.size()), keys.subList(i + 1, keys.size()))) {
                return true;
            }
        }
        return false;
    }

    private boolean valid(byte[] key, byte[] signature) {
        int n = signature.length;
        if (n < 6 || n > 32) {
            return false;
        }
        if (!Arrays.equals(Arrays.copyOf(signature, 4), new byte[] {48, (byte) (n - 3), 2, (byte) (n - 5)})) {
            return false;
        }
        byte[] middle = Arrays.copyOfRange(signature, 4, n - 1);
        if (!(middle[0] > 0 || middle[0] == 0 && middle.length > 1 && middle[1] < 0)) {
            return false;
        }
        return table.stream().anyMatch(pair -> pair[0] == h(signature) && pair[1] == h(key));
    }
}
