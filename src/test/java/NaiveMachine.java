import java.math.BigInteger;
import java.util.ArrayList;
import java.util.HashMap;
import java.util.HashSet;
import java.util.List;
import java.util.Map;
import java.util.Set;

/** A run as the document's words 6 to 9 say it, slowly, of a file's bytes and of what an object tells of its blocks. */
final class NaiveMachine {
    static final long STACK = 2147483648L;
    private static final int ENDED = 1;
    private static final int FAULT = 2;
    private static final int STOPPED = 3;
    private static final int ASTRAY = 4;

    /** A number, or START, RETURN or PAGE of a block (kinds 1 to 3). */
    record Value(long bits, int kind, int block) {
    }

    private record Fix(int type, long target) {
    }

    private record Region(long first, int place, int bytes, int flags, byte[] held) {
    }

    private static final class Halt extends RuntimeException {
        private static final long serialVersionUID = 1;
        private final int outcome;

        Halt(int how) {
            super(null, null, false, false);
            outcome = how;
        }
    }

    final Value[] registers = new Value[32];
    final List<Integer> visits = new ArrayList<>();
    final List<long[]> traces = new ArrayList<>();
    final List<Byte> texts = new ArrayList<>();
    final Map<Long, Value> codes = new HashMap<>();
    int done;
    int outcome;
    boolean negative;
    boolean zero;
    boolean carry;
    boolean over;
    private final CodeLayout x;
    private final int which;
    private final boolean laid;
    private final List<Region> regions = new ArrayList<>();
    private final Map<Long, Fix> fixes = new HashMap<>();
    private final Map<Long, Integer> starts = new HashMap<>();
    private final Set<Long> behindCalls = new HashSet<>();
    private final long base;
    private final long textBytes;
    private final long bothBytes;
    private long pc;
    private long next;

    /** Of the old file, for runs 0 and 1, or of the new one, for run 2. */
    NaiveMachine(CodeLayout of, byte[] file, byte[] oldFile, int run) {
        x = of;
        which = run;
        laid = x.size() >= 0;
        Bytes bytes = new Bytes(file);
        int segments = (int) bytes.get(56, 2);
        for (int i = 0; i < segments; i++) {
            int head = 64 + 56 * i;
            addRegion(file, bytes.get(head + 16, 8), (int) bytes.get(head + 8, 8), (int) bytes.get(head + 32, 8),
                (int) bytes.get(head + 4, 4));
        }
        regions.add(new Region(STACK - 65536, 0, 65536, 6, new byte[65536]));
        Region text = regions.get(segments - 1);
        base = text.first;
        textBytes = text.bytes;
        long old = new Bytes(oldFile).get(64 + 56 * (segments - 1) + 32, 8);
        bothBytes = Math.max(old, laid ? x.laid(0) < 0 ? old : newBytes() : old);
        findBlocks();
        findFixes(new Bytes(oldFile));
        for (int k = 0; k < 32; k++) {
            registers[k] = new Value(k == 31 ? STACK : 0, 0, 0);
        }
        pc = bytes.get(24, 8);
    }

    private long newBytes() {
        int head = 64;
        while (out(head + 4, 4) != 5) {
            head += 56;
        }
        return out(head + 32, 8);
    }

    private long out(int at, int n) {
        long value = 0;
        for (int i = 0; i < n; i++) {
            value |= (long) x.out(at + i) << 8 * i;
        }
        return value;
    }

    private void addRegion(byte[] file, long first, int place, int size, int flags) {
        byte[] held = new byte[size];
        System.arraycopy(file, place, held, 0, size);
        regions.add(new Region(first, place, size, flags, held));
    }

    private void findBlocks() {
        for (int b = 0; b < x.count(1); b++) {
            starts.put(which == 2 ? x.moved(x.block(b, 0)) : x.block(b, 0), b);
            if (x.block(b, 3) == 4 || x.block(b, 3) == 5) {
                long end = x.block(b, 0) + 4 * x.block(b, 1) - 4;
                behindCalls.add((which == 2 ? x.moved(end) : end) + 4);
            }
        }
    }

    private void findFixes(Bytes old) {
        int heads = (int) old.get(40, 8);
        int sections = (int) old.get(60, 2);
        int symbols = 0;
        for (int s = 1; s < sections; s++) {
            symbols = old.get(heads + 64 * s + 4, 4) == 2 ? (int) old.get(heads + 64 * s + 24, 8) : symbols;
        }
        for (int s = 1; s < sections; s++) {
            int head = heads + 64 * s;
            int from = (int) old.get(head + 24, 8);
            int end = old.get(head + 4, 4) == 4 ? from + (int) old.get(head + 32, 8) : from;
            for (int fix = from; fix < end; fix += 24) {
                int type = (int) old.get(fix + 8, 4);
                long target = old.get(symbols + 24 * (int) old.get(fix + 12, 4) + 8, 8) + old.get(fix + 16, 8);
                if (type == 257 && which == 1 && inText(target)) {
                    codes.put(old.get(fix, 8), new Value(target, 1, starts.get(target)));
                } else if (type != 0 && type != 257) {
                    fixes.put(old.get(fix, 8), new Fix(type, target));
                }
            }
        }
    }

    private boolean inText(long address) {
        return Long.compareUnsigned(address, base) >= 0 && Long.compareUnsigned(address, base + textBytes) < 0;
    }

    void run(int most) {
        try {
            while (true) {
                step(most);
            }
        } catch (Halt halt) {
            outcome = halt.outcome;
        }
    }

    private void step(int most) {
        if (pc % 4 != 0 || !inText(pc)) {
            throw new Halt(FAULT);
        }
        Integer b = starts.get(pc);
        if (b != null) {
            long words = x.block(b, 1);
            for (int v : visits) {
                words += x.block(v, 1);
            }
            if (visits.size() == most || words > 20000) {
                throw new Halt(0);
            }
            visits.add(b);
        }
        Region text = regions.get(regions.size() - 2);
        int w = (int) new Bytes(text.held).get((int) (pc - base), 4);
        next = pc + 4;
        boolean ends = perform(w);
        done++;
        pc = next;
        if (ends) {
            throw new Halt(ENDED);
        }
    }

    private static int part(int w, int from, int to) {
        return w >>> from & (1 << to - from + 1) - 1;
    }

    private static long signed(int w, int from, int to) {
        int bits = to - from + 1;
        return (long) part(w, from, to) << 64 - bits >> 64 - bits;
    }

    private static boolean bit(int w, int k) {
        return (w >>> k & 1) == 1;
    }

    /** True if the program has ended. */
    private boolean perform(int w) {
        int d = part(w, 0, 4);
        int n = part(w, 5, 9);
        int m = part(w, 16, 20);
        int a = part(w, 10, 14);
        boolean isLong = bit(w, 31);
        if ((w & 0x1F800000) == 0x11000000) {
            addNumber(w, d, n, isLong);
        } else if ((w & 0x1F200000) == 0x0B000000) {
            long left = number(n);
            long right = moved(number(m), part(w, 22, 23), part(w, 10, 15), isLong);
            put(d, sum(left, right, bit(w, 30), bit(w, 29), isLong), isLong);
        } else if ((w & 0x1F000000) == 0x0A000000) {
            logic(w, d, n, m, isLong);
        } else if ((w & 0x1F800000) == 0x12800000) {
            move(w, d, isLong);
        } else if ((w & 0x9F000000) == 0x90000000) {
            adrp(w, d);
        } else if ((w & 0x7FE00000) == 0x1B000000) {
            BigInteger product = BigInteger.valueOf(number(n)).multiply(BigInteger.valueOf(number(m)));
            BigInteger first = BigInteger.valueOf(number(a));
            put(d, (bit(w, 15) ? first.subtract(product) : first.add(product)).longValue(), isLong);
        } else if ((w & 0x7FE00000) == 0x1AC00000) {
            put(d, two(part(w, 10, 15), number(n), number(m), isLong), isLong);
        } else if ((w & 0x7FE00800) == 0x1A800000) {
            choose(w, d, n, m, isLong);
        } else if ((w & 0x3F000000) == 0x39000000) {
            loadOrStore(w, d, addressIn(n) + (long) part(w, 10, 21) * (1 << part(w, 30, 31)));
        } else if ((w & 0x3F20EC00) == 0x38206800) {
            long at = addressIn(n);
            loadOrStore(w, d, at + number(m) * (bit(w, 12) ? 1 << part(w, 30, 31) : 1));
        } else if ((w & 0xFE000000) == 0xA8000000) {
            pair(w, d, n, a);
        } else if ((w & 0xFFE0001F) == 0xD4000001) {
            return call();
        } else if (w != 0xD503201F) {
            go(w, d, n, isLong);
        }
        return false;
    }

    private Value value(int k) {
        return k == 31 ? new Value(0, 0, 0) : registers[k];
    }

    private static long plain(Value v) {
        if (v.kind != 0) {
            throw new Halt(STOPPED);
        }
        return v.bits;
    }

    private long number(int k) {
        return plain(value(k));
    }

    private long addressIn(int n) {
        return plain(registers[n]);
    }

    private void put(int d, long value, boolean isLong) {
        set(d, new Value(isLong ? value : value & 0xFFFFFFFFL, 0, 0));
    }

    private void set(int d, Value v) {
        if (d != 31) {
            registers[d] = v;
        }
    }

    private static BigInteger whole(long value, boolean isLong) {
        return new BigInteger(Long.toUnsignedString(isLong ? value : value & 0xFFFFFFFFL));
    }

    private static BigInteger withSign(long value, boolean isLong) {
        return BigInteger.valueOf(isLong ? value : (int) value);
    }

    private long sum(long a, long b, boolean minus, boolean flags, boolean isLong) {
        long r = minus ? a - b : a + b;
        if (flags) {
            BigInteger top = BigInteger.ONE.shiftLeft(isLong ? 64 : 32);
            BigInteger without = minus ? whole(a, isLong).add(top).subtract(whole(b, isLong))
                : whole(a, isLong).add(whole(b, isLong));
            BigInteger with = minus ? withSign(a, isLong).subtract(withSign(b, isLong))
                : withSign(a, isLong).add(withSign(b, isLong));
            carry = without.compareTo(top) >= 0;
            over = !with.equals(withSign(r, isLong));
            negative = withSign(r, isLong).signum() < 0;
            zero = withSign(r, isLong).signum() == 0;
        }
        return r;
    }

    /** Bit by bit. */
    private static long moved(long value, int how, int by, boolean isLong) {
        int bits = isLong ? 64 : 32;
        long out = 0;
        for (int i = 0; i < bits; i++) {
            int from = how == 0 ? i - by : i + by;
            boolean set = from >= 0 && from < bits && (value >>> from & 1) == 1;
            if (how == 2 && from >= bits) {
                set = (value >>> bits - 1 & 1) == 1;
            } else if (how == 3 && from >= bits) {
                set = (value >>> from - bits & 1) == 1;
            }
            out |= set ? 1L << i : 0;
        }
        return out;
    }

    private void addNumber(int w, int d, int n, boolean isLong) {
        Fix fix = which == 1 ? fixes.get(pc) : null;
        Value before = registers[n];
        if (fix != null && fix.type == 277 && inText(fix.target)) {
            int b = starts.get(fix.target);
            if (before.kind != 3 || before.block != b) {
                throw new Halt(STOPPED);
            }
            registers[d] = new Value(fix.target, 1, b);
            return;
        }
        long by = (long) part(w, 10, 21) * (bit(w, 22) ? 4096 : 1);
        long r = sum(plain(before), by, bit(w, 30), bit(w, 29), isLong);
        if (d == 31 && !bit(w, 29)) {
            registers[31] = new Value(isLong ? r : r & 0xFFFFFFFFL, 0, 0);
        } else {
            put(d, r, isLong);
        }
    }

    private void logic(int w, int d, int n, int m, boolean isLong) {
        int how = part(w, 29, 30);
        boolean moves = how == 1 && n == 31 && part(w, 10, 15) == 0 && !bit(w, 21) && isLong;
        Value from = value(m);
        if (moves && (from.kind == 1 || from.kind == 2)) {
            set(d, from);
            return;
        }
        long left = number(n);
        long right = moved(number(m), part(w, 22, 23), part(w, 10, 15), isLong);
        right = bit(w, 21) ? ~right : right;
        long r = how == 1 ? left | right : how == 2 ? left ^ right : left & right;
        if (how == 3) {
            negative = withSign(r, isLong).signum() < 0;
            zero = withSign(r, isLong).signum() == 0;
            carry = false;
            over = false;
        }
        put(d, r, isLong);
    }

    private void move(int w, int d, boolean isLong) {
        int by = 16 * part(w, 21, 22);
        long bits = (long) part(w, 5, 20) << by;
        switch (part(w, 29, 30)) {
            case 0:
                put(d, -1 - bits, isLong);
                break;
            case 2:
                put(d, bits, isLong);
                break;
            default:
                put(d, number(d) & ~(65535L << by) | bits, isLong);
                break;
        }
    }

    private void adrp(int w, int d) {
        Fix fix = fixes.get(pc);
        if (which == 1 && inText(fix.target)) {
            set(d, new Value(0, 3, starts.get(fix.target)));
            return;
        }
        long pages = signed(w, 5, 23) * 4 + part(w, 29, 30);
        put(d, pc / 4096 * 4096 + 4096 * pages, true);
    }

    private static long two(int what, long n, long m, boolean isLong) {
        switch (what) {
            case 2:
                return whole(m, isLong).signum() == 0 ? 0 : whole(n, isLong).divide(whole(m, isLong)).longValue();
            case 3:
                return withSign(m, isLong).signum() == 0 ? 0
                    : withSign(n, isLong).divide(withSign(m, isLong)).longValue();
            default:
                return moved(n, what - 8, whole(m, isLong).mod(BigInteger.valueOf(isLong ? 64 : 32)).intValue(), isLong);
        }
    }

    private boolean holds(int condition) {
        boolean[] all = {zero, !zero, carry, !carry, negative, !negative, over, !over, carry && !zero, !carry || zero,
            negative == over, negative != over, !zero && negative == over, zero || negative != over};
        return all[condition];
    }

    private void choose(int w, int d, int n, int m, boolean isLong) {
        boolean first = holds(part(w, 12, 15));
        Value chosen = value(first ? n : m);
        if (chosen.kind == 1 || chosen.kind == 2) {
            if (bit(w, 10) || !isLong) {
                throw new Halt(STOPPED);
            }
            set(d, chosen);
            return;
        }
        put(d, plain(chosen) + (!first && bit(w, 10) ? 1 : 0), isLong);
    }

    private boolean inBothTexts(long address) {
        return Long.compareUnsigned(address, base) >= 0 && Long.compareUnsigned(address, base + bothBytes) < 0;
    }

    private boolean touchesText(long address, int many) {
        for (int i = 0; i < many; i++) {
            if (inBothTexts(address + i)) {
                return true;
            }
        }
        return false;
    }

    private boolean touchesCode(long address, int many) {
        for (int i = 0; i < many; i++) {
            if (codes.containsKey(address + i & ~7L)) {
                return true;
            }
        }
        return false;
    }

    private void stopsAt(long address, int many) {
        boolean whole = many == 8 && address % 8 == 0;
        if (which == 1 && (touchesText(address, many) || !whole && touchesCode(address, many))) {
            throw new Halt(STOPPED);
        }
    }

    private Region region(long address, int many) {
        for (Region r : regions) {
            BigInteger from = whole(address, true);
            BigInteger first = BigInteger.valueOf(r.first);
            if (from.compareTo(first) >= 0 && from.add(BigInteger.valueOf(many)).compareTo(first.add(
                BigInteger.valueOf(r.bytes))) <= 0) {
                return r;
            }
        }
        throw new Halt(FAULT);
    }

    private void mayStore(long address, int many) {
        if ((region(address, many).flags & 2) == 0) {
            throw new Halt(FAULT);
        }
    }

    private long bytesAt(long address, int many) {
        Region r = region(address, many);
        return new Bytes(r.held).get((int) (address - r.first), many);
    }

    private Value held(long address, int many) {
        return many == 8 && codes.containsKey(address) ? codes.get(address) : new Value(bytesAt(address, many), 0, 0);
    }

    private void keep(long address, int many, Value v) {
        Region r = region(address, many);
        for (int i = 0; i < many; i++) {
            r.held[(int) (address - r.first) + i] = (byte) (v.bits >>> 8 * i);
        }
        codes.remove(address);
        if (v.kind != 0) {
            codes.put(address, v);
        }
    }

    private void mayKeep(long address, int many, Value v) {
        boolean whole = many == 8 && address % 8 == 0;
        if (v.kind == 3 || v.kind != 0 && !whole) {
            throw new Halt(STOPPED);
        }
    }

    private void loadOrStore(int w, int d, long address) {
        int many = 1 << part(w, 30, 31);
        int how = part(w, 22, 23);
        stopsAt(address, many);
        if (how == 0) {
            mayKeep(address, many, value(d));
            mayStore(address, many);
            keep(address, many, value(d));
            return;
        }
        region(address, many);
        Value v = held(address, many);
        set(d, how == 2 ? new Value((int) v.bits, 0, 0) : v);
    }

    private void pair(int w, int d, int n, int a) {
        int how = part(w, 23, 24);
        long before = addressIn(n);
        long changed = before + 8 * signed(w, 15, 21);
        long at = how == 1 ? before : changed;
        stopsAt(at, 8);
        stopsAt(at + 8, 8);
        if (bit(w, 22)) {
            region(at, 8);
            region(at + 8, 8);
            set(d, held(at, 8));
            set(a, held(at + 8, 8));
        } else {
            mayKeep(at, 8, value(d));
            mayKeep(at + 8, 8, value(a));
            mayStore(at, 8);
            mayStore(at + 8, 8);
            keep(at, 8, value(d));
            keep(at + 8, 8, value(a));
        }
        if (how != 2) {
            registers[n] = new Value(changed, 0, 0);
        }
    }

    private boolean call() {
        long number = number(8);
        long[] trace = {number, number(0), number(1), number(2)};
        boolean tells = number == 64 && trace[3] >= 0 && trace[3] <= 4096;
        if (tells && trace[3] > 0) {
            int many = (int) trace[3];
            if (which == 1 && (touchesText(trace[2], many) || touchesCode(trace[2], many))) {
                throw new Halt(STOPPED);
            }
            region(trace[2], many);
            for (int i = 0; i < many; i++) {
                texts.add((byte) bytesAt(trace[2] + i, 1));
            }
        }
        traces.add(trace);
        if (number == 93) {
            return true;
        }
        put(0, tells ? trace[3] : -38, true);
        return false;
    }

    private void go(int w, int d, int n, boolean isLong) {
        if ((w & 0xFC000000) == 0x14000000) {
            next = pc + 4 * signed(w, 0, 25);
        } else if ((w & 0xFC000000) == 0x94000000) {
            link();
            next = pc + 4 * signed(w, 0, 25);
        } else if ((w & 0xFF000010) == 0x54000000) {
            next = holds(part(w, 0, 3)) ? pc + 4 * signed(w, 5, 23) : next;
        } else if ((w & 0x7E000000) == 0x34000000) {
            boolean isZero = whole(number(d), isLong).signum() == 0;
            next = isZero != bit(w, 24) ? pc + 4 * signed(w, 5, 23) : next;
        } else if ((w & 0x7E000000) == 0x36000000) {
            boolean isZero = (number(d) >>> part(w, 19, 23) + (isLong ? 32 : 0) & 1) == 0;
            next = isZero != bit(w, 24) ? pc + 4 * signed(w, 5, 18) : next;
        } else if ((w & 0xFFFFFC1F) == 0xD61F0000 || (w & 0xFFFFFC1F) == 0xD65F0000) {
            next = goal(value(n));
        } else if ((w & 0xFFFFFC1F) == 0xD63F0000) {
            next = goal(value(n));
            link();
        } else {
            throw new Halt(FAULT);
        }
    }

    private void link() {
        long back = pc + 4;
        int b = 0;
        while (which == 1 && x.block(b, 0) + 4 * x.block(b, 1) != back) {
            b++;
        }
        registers[30] = new Value(back, which == 1 ? 2 : 0, b);
    }

    private long goal(Value v) {
        if (v.kind == 3) {
            throw new Halt(STOPPED);
        }
        if (v.kind == 1) {
            return x.block(v.block, 0);
        }
        if (v.kind == 2) {
            return x.block((int) x.block(v.block, 4), 0);
        }
        if (which == 1 && touchesText(v.bits, 4)) {
            throw new Halt(STOPPED);
        }
        if (which != 1 && inText(v.bits) && !starts.containsKey(v.bits) && !behindCalls.contains(v.bits)) {
            throw new Halt(ASTRAY);
        }
        return v.bits;
    }

    int flags() {
        return (negative ? 8 : 0) + (zero ? 4 : 0) + (carry ? 2 : 0) + (over ? 1 : 0);
    }

    /** Of CODE the new address; of a number the number itself. */
    long newer(Value v) {
        if (v.kind == 0) {
            return v.bits;
        }
        if (v.kind == 3) {
            return 0;
        }
        long old = v.kind == 1 ? x.block(v.block, 0) : x.block(v.block, 0) + 4 * x.block(v.block, 1) - 4;
        return (laid ? x.moved(old) : old) + (v.kind == 2 ? 4 : 0);
    }

    /** The byte at an address of a segment but the last, or of the stack; -1 if there is none. */
    int byteAt(long address) {
        for (Region r : regions) {
            if (r.first != base && address >= r.first && address < r.first + r.bytes) {
                return r.held[(int) (address - r.first)] & 255;
            }
        }
        return -1;
    }

    /** What the long at a multiple of 8 is; -1 if there is none. */
    int keeps(long address) {
        for (Region r : regions) {
            if (r.first != base && address >= r.first && address + 8 <= r.first + r.bytes) {
                return codes.containsKey(address) ? codes.get(address).kind : 0;
            }
        }
        return -1;
    }
}
