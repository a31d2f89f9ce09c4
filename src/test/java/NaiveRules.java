import java.math.BigInteger;
import java.util.ArrayList;
import java.util.HashSet;
import java.util.List;
import java.util.Set;
import java.util.TreeSet;

/** The rules 1 to 12 as the document's words 1, 2 and 10 say them, slowly, and the blocks of a file that keeps them. */
final class NaiveRules {
    private static final int TEXT = 1;
    private static final int DATA = 2;
    private static final int NOTE = 3;
    private static final int SYMBOLS = 4;
    private static final int TEXTS = 5;
    private static final int FIXES = 6;

    private static final class Broken extends RuntimeException {
        private static final long serialVersionUID = 1;

        Broken() {
            super(null, null, false, false);
        }
    }

    record Block(long address, int words, int function, int end, int next, int taken, boolean named) {
    }

    private record Fix(int at, long place, int type, long target, int section) {
    }

    /** 0 if none is broken; then place is -1. */
    int rule;
    int place = -1;
    final List<long[]> functions = new ArrayList<>();
    final List<Block> blocks = new ArrayList<>();
    int used;
    private final Bytes file;
    private final int[] kinds = new int[17];
    private final List<Fix> fixes = new ArrayList<>();
    private int n;
    private int m;
    private int heads;
    private int text;
    private int symbols;
    private long base;
    private int textPlace;
    private int words;

    NaiveRules(byte[] bytes) {
        file = new Bytes(bytes);
        try {
            rule = 1;
            fileHead();
            rule = 2;
            segments();
            rule = 3;
            sections();
            rule = 4;
            symbols();
            rule = 5;
            fixes();
            rule = 6;
            must(isWord(u(24, 8)), 24);
            takeApart();
            rule = 0;
        } catch (Broken broken) {
            return;
        }
    }

    private void must(boolean holds, int at) {
        if (!holds) {
            place = at;
            throw new Broken();
        }
    }

    private BigInteger u(int at, int bytes) {
        return new BigInteger(Long.toUnsignedString(file.get(at, bytes)));
    }

    private int small(int at, int bytes) {
        return u(at, bytes).min(BigInteger.valueOf(Integer.MAX_VALUE)).intValue();
    }

    private void is(int at, int bytes, long value) {
        must(file.get(at, bytes) == value, at);
    }

    private static boolean least(BigInteger a, long b) {
        return a.compareTo(BigInteger.valueOf(b)) >= 0;
    }

    private static boolean most(BigInteger a, long b) {
        return a.compareTo(BigInteger.valueOf(b)) <= 0;
    }

    private static boolean times(BigInteger a, int unit) {
        return a.mod(BigInteger.valueOf(unit)).signum() == 0;
    }

    private void fileHead() {
        int length = file.bytes.length;
        must(length >= 64, length);
        byte[] begins = {127, 69, 76, 70, 2, 1, 1, 0, 0, 0, 0, 0, 0, 0, 0, 0};
        for (int i = 0; i < 16; i++) {
            must(file.bytes[i] == begins[i], 0);
        }
        is(16, 2, 2);
        is(18, 2, 183);
        is(20, 4, 1);
        is(32, 8, 64);
        is(48, 4, 0);
        is(52, 2, 64);
        is(54, 2, 56);
        n = small(56, 2);
        must(n >= 1 && n <= 4, 56);
        is(58, 2, 64);
        m = small(60, 2);
        must(m >= 5 && m <= 16, 60);
        must(small(62, 2) >= 1 && small(62, 2) <= m - 1, 62);
        must(times(u(40, 8), 8), 40);
        must(u(40, 8).add(BigInteger.valueOf(64 * m)).equals(BigInteger.valueOf(length)), 40);
        heads = small(40, 8);
    }

    private void segments() {
        BigInteger offsetEnd = BigInteger.ZERO;
        BigInteger addressEnd = BigInteger.ZERO;
        for (int i = 0; i < n; i++) {
            int head = 64 + 56 * i;
            is(head, 4, 1);
            int flags = small(head + 4, 4);
            must(flags == 4 || flags == 5 || flags == 6, head + 4);
            must((flags == 5) == (i == n - 1), head + 4);
            BigInteger offset = u(head + 8, 8);
            must(least(offset, 64 + 56 * n) && offset.compareTo(offsetEnd) >= 0, head + 8);
            BigInteger address = u(head + 16, 8);
            must(least(address, 65536) && most(address, 134217728), head + 16);
            must(times(address.subtract(offset), 16) && address.compareTo(addressEnd) >= 0, head + 16);
            must(u(head + 24, 8).equals(address), head + 24);
            BigInteger size = u(head + 32, 8);
            must(least(size, 1) && most(size, 4194304), head + 32);
            must(most(offset.add(size), heads), head + 32);
            must(u(head + 40, 8).equals(size), head + 40);
            is(head + 48, 8, 16);
            offsetEnd = offset.add(size);
            addressEnd = address.add(size);
        }
    }

    private int head(int s) {
        return heads + 64 * s;
    }

    private int offset(int s) {
        return small(head(s) + 24, 8);
    }

    private int size(int s) {
        return small(head(s) + 32, 8);
    }

    private static int kind(int type, long flags) {
        if (type == 1) {
            return flags == 6 ? TEXT : flags == 2 || flags == 3 ? DATA : flags == 0 ? NOTE : 0;
        }
        return flags == 0 ? type + 2 : 0;
    }

    private void sections() {
        for (int i = 0; i < 64; i++) {
            must(file.bytes[head(0) + i] == 0, head(0));
        }
        for (int s = 1; s < m; s++) {
            section(s, head(s));
        }
        must(many(TEXT) == 1, 60);
        must(many(SYMBOLS) == 1, 60);
        int last = 64 + 56 * (n - 1);
        must(u(head(text) + 16, 8).equals(u(last + 16, 8)), head(text) + 16);
        must(u(head(text) + 24, 8).equals(u(last + 8, 8)), head(text) + 24);
        must(u(head(text) + 32, 8).equals(u(last + 32, 8)), head(text) + 32);
        base = file.get(last + 16, 8);
        textPlace = offset(text);
        words = size(text) / 4;
        for (int s = 1; s < m; s++) {
            must(kinds[s] != DATA || inSegment(s), head(s) + 16);
        }
        for (int s = 1; s < m; s++) {
            boolean any = kinds[s] == TEXT || kinds[s] == DATA;
            must(any || offset(s) >= textPlace + 4 * words, head(s) + 24);
        }
        for (int s = 1; s < m; s++) {
            for (int r = 1; r < s; r++) {
                must(apart(r, s), head(s) + 24);
            }
        }
        links();
        int names = small(62, 2);
        must(kinds[names] == TEXTS, 62);
        for (int s = 0; s < m; s++) {
            must(u(head(s), 4).compareTo(BigInteger.valueOf(size(names))) < 0, head(s));
        }
    }

    private void section(int s, int head) {
        int type = small(head + 4, 4);
        must(type >= 1 && type <= 4, head + 4);
        kinds[s] = kind(type, file.get(head + 8, 8));
        must(kinds[s] != 0, head + 8);
        must(least(u(head + 24, 8), 64 + 56 * n), head + 24);
        BigInteger size = u(head + 32, 8);
        must(most(u(head + 24, 8).add(size), heads), head + 32);
        if (kinds[s] == TEXT) {
            must(times(u(head + 16, 8), 4), head + 16);
            must(times(size, 4), head + 32);
            text = s;
        } else if (kinds[s] == TEXTS) {
            must(size.signum() > 0, head + 32);
            must(file.bytes[offset(s)] == 0, offset(s));
            must(file.bytes[offset(s) + size(s) - 1] == 0, offset(s) + size(s) - 1);
        } else if (kinds[s] == SYMBOLS || kinds[s] == FIXES) {
            must(times(size, 24) && (kinds[s] == FIXES || size.signum() > 0), head + 32);
            is(head + 56, 8, 24);
            symbols = kinds[s] == SYMBOLS ? s : symbols;
        }
    }

    private int many(int kind) {
        int found = 0;
        for (int s = 1; s < m; s++) {
            found += kinds[s] == kind ? 1 : 0;
        }
        return found;
    }

    private boolean inSegment(int s) {
        for (int i = 0; i < n; i++) {
            int segment = 64 + 56 * i;
            int flags = small(segment + 4, 4);
            boolean fits = flags == 6 || flags == 4 && file.get(head(s) + 8, 8) == 2;
            BigInteger address = u(head(s) + 16, 8);
            BigInteger first = u(segment + 16, 8);
            BigInteger behind = first.add(u(segment + 32, 8));
            boolean inside = address.compareTo(first) >= 0 && address.add(BigInteger.valueOf(size(s))).compareTo(behind) <= 0;
            boolean same = address.subtract(u(head(s) + 24, 8)).equals(first.subtract(u(segment + 8, 8)));
            if (fits && inside && same) {
                return true;
            }
        }
        return false;
    }

    private boolean apart(int r, int s) {
        for (int i = offset(r); i < offset(r) + size(r); i++) {
            if (i >= offset(s) && i < offset(s) + size(s)) {
                return false;
            }
        }
        return true;
    }

    private int kindOf(BigInteger s) {
        return least(s, 1) && most(s, m - 1) ? kinds[s.intValue()] : 0;
    }

    private void links() {
        for (int s = 1; s < m; s++) {
            BigInteger link = u(head(s) + 40, 4);
            must(kinds[s] != SYMBOLS || kindOf(link) == TEXTS, head(s) + 40);
            must(kinds[s] != FIXES || kindOf(link) == SYMBOLS, head(s) + 40);
        }
        Set<BigInteger> told = new HashSet<>();
        for (int s = 1; s < m; s++) {
            BigInteger info = u(head(s) + 44, 4);
            if (kinds[s] == FIXES) {
                must(kindOf(info) == TEXT || kindOf(info) == DATA, head(s) + 44);
                must(told.add(info), head(s) + 44);
            }
        }
    }

    private boolean isWord(BigInteger address) {
        return least(address, base) && most(address, base + 4 * words - 4) && times(address, 4);
    }

    private void symbols() {
        int names = size(small(head(symbols) + 40, 4));
        for (int i = 0; i < 24; i++) {
            must(file.bytes[offset(symbols) + i] == 0, offset(symbols));
        }
        for (int at = offset(symbols) + 24; at < offset(symbols) + size(symbols); at += 24) {
            must(most(u(at, 4), names - 1), at);
            BigInteger section = u(at + 6, 2);
            int kind = kindOf(section);
            must(section.signum() == 0 || section.intValue() == 65521 || kind == TEXT || kind == DATA, at + 6);
            BigInteger value = u(at + 8, 8);
            must(kind != TEXT || isWord(value) || value.equals(BigInteger.valueOf(base + 4 * words)), at + 8);
        }
    }

    private void fixes() {
        for (int s = 1; s < m; s++) {
            if (kinds[s] == FIXES) {
                Set<Long> places = new HashSet<>();
                for (int at = offset(s); at < offset(s) + size(s); at += 24) {
                    fix(at, small(head(s) + 44, 4), places);
                }
            }
        }
    }

    private void fix(int at, int section, Set<Long> places) {
        long type = file.get(at + 8, 4);
        boolean ofText = kinds[section] == TEXT;
        boolean known = ofText ? List.of(275L, 277L, 278L, 285L, 286L, 282L, 283L).contains(type) : type == 257;
        must(known || type == 0, at + 8);
        if (type == 0) {
            is(at, 8, 0);
            is(at + 12, 4, 0);
            is(at + 16, 8, 0);
            return;
        }
        BigInteger where = u(at, 8);
        BigInteger first = u(head(section) + 16, 8);
        int unit = ofText ? 4 : 8;
        boolean inside = where.compareTo(first) >= 0
            && where.add(BigInteger.valueOf(unit)).compareTo(first.add(BigInteger.valueOf(size(section)))) <= 0;
        must(inside && times(where, unit) && places.add(where.longValue()), at);
        must(most(u(at + 12, 4), size(symbols) / 24 - 1), at + 12);
        long value = file.get(offset(symbols) + 24 * small(at + 12, 4) + 8, 8);
        fixes.add(new Fix(at, where.longValue(), (int) type, value + file.get(at + 16, 8), section));
        used++;
    }

    private int word(int i) {
        return (int) file.get(textPlace + 4 * i, 4);
    }

    private void takeApart() {
        rule = 7;
        functions();
        rule = 8;
        for (int i = 0; i < words; i++) {
            must(DecodeTest.isInstruction(word(i)), textPlace + 4 * i);
        }
        rule = 9;
        for (Fix fix : fixes) {
            must(fixHolds(fix), fix.at);
        }
        rule = 10;
        for (int i = 0; i < words; i++) {
            must(kindOf(word(i)) != 'P' || hasPage(base + 4 * i), textPlace + 4 * i);
        }
        rule = 11;
        for (int i = 0; i < words; i++) {
            must(goesRightly(i), textPlace + 4 * i);
        }
        rule = 12;
        for (long[] f : functions) {
            int last = (int) (f[0] + f[1] - 4 - base) / 4;
            must("BJR".indexOf(kindOf(word(last))) >= 0, textPlace + 4 * last);
        }
        findBlocks();
    }

    private void functions() {
        for (int at = offset(symbols); at < offset(symbols) + size(symbols); at += 24) {
            if (small(at + 6, 2) == text && (file.get(at + 4, 1) & 15) == 2) {
                functions.add(new long[] {file.get(at + 8, 8), file.get(at + 16, 8)});
            }
        }
        functions.sort((a, b) -> Long.compare(a[0], b[0]));
        long end = base;
        for (long[] f : functions) {
            must(f[0] == end && f[1] > 0 && f[1] % 4 == 0 && f[1] <= 4L * words, textPlace);
            end += f[1];
        }
        must(end == base + 4L * words, textPlace);
    }

    /** B, L for BL, C for B.cond and the like, J for BR, K for BLR, R for RET, P for ADRP, else a blank. */
    private static char kindOf(int w) {
        if ((w & 0x9F000000) == 0x90000000) {
            return 'P';
        }
        if ((w & 0x7C000000) == 0x14000000) {
            return w < 0 ? 'L' : 'B';
        }
        if ((w & 0xFF000010) == 0x54000000 || (w & 0x7C000000) == 0x34000000) {
            return 'C';
        }
        switch (w & 0xFFFFFC1F) {
            case 0xD61F0000:
                return 'J';
            case 0xD63F0000:
                return 'K';
            case 0xD65F0000:
                return 'R';
            default:
                return ' ';
        }
    }

    private static int by(int w) {
        if ((w & 0x7C000000) == 0x14000000) {
            return w << 6 >> 6;
        }
        return (w & 0x7E000000) == 0x36000000 ? w << 13 >> 18 : w << 8 >> 13;
    }

    private boolean inText(long address) {
        return Long.compareUnsigned(address, base) >= 0 && Long.compareUnsigned(address, base + 4L * words) < 0;
    }

    private boolean fixHolds(Fix fix) {
        long target = fix.target;
        if (inText(target) && (target % 4 != 0 || fix.type == 278 || fix.type >= 285) || target == base + 4L * words) {
            return false;
        }
        if (fix.type == 257) {
            int at = (int) (offset(fix.section) + fix.place - file.get(head(fix.section) + 16, 8));
            return file.get(at, 8) == target;
        }
        int i = (int) (fix.place - base) / 4;
        int w = word(i);
        long low = target & 4095;
        switch (fix.type) {
            case 275:
                long pages = (long) (w << 8 >> 13) * 4 + (w >>> 29 & 3);
                return kindOf(w) == 'P' && target >= 0 && target < 2147483648L
                    && fix.place / 4096 + pages == target / 4096;
            case 277:
                return w >>> 22 == 0x244 && (w >>> 10 & 4095) == low;
            case 278:
            case 285:
            case 286:
                int width = fix.type == 278 ? 0 : fix.type == 285 ? 2 : 3;
                return (w & 0x3F000000) == 0x39000000 && w >>> 30 == width && (w >>> 10 & 4095) * (1 << width) == low;
            default:
                return kindOf(w) == (fix.type == 282 ? 'B' : 'L') && fix.place + 4L * by(w) == target;
        }
    }

    private boolean hasPage(long address) {
        for (Fix fix : fixes) {
            if (fix.type == 275 && fix.place == address) {
                return true;
            }
        }
        return false;
    }

    private int functionAt(long address) {
        for (int f = 0; f < functions.size(); f++) {
            if (address >= functions.get(f)[0] && address < functions.get(f)[0] + functions.get(f)[1]) {
                return f;
            }
        }
        return -1;
    }

    private boolean goesRightly(int i) {
        char kind = kindOf(word(i));
        if ("BLC".indexOf(kind) < 0) {
            return true;
        }
        long to = base + 4L * i + 4L * by(word(i));
        int f = functionAt(to);
        boolean first = f >= 0 && functions.get(f)[0] == to;
        boolean inside = f >= 0 && f == functionAt(base + 4L * i);
        return kind == 'B' ? first || inside : kind == 'L' ? first : inside;
    }

    private void findBlocks() {
        TreeSet<Long> leaders = new TreeSet<>();
        leaders.add(file.get(24, 8));
        for (long[] f : functions) {
            leaders.add(f[0]);
        }
        for (int i = 0; i < words; i++) {
            char kind = kindOf(word(i));
            long here = base + 4L * i;
            if ("BCLJKR".indexOf(kind) >= 0 && i + 1 < words) {
                leaders.add(here + 4);
            }
            if (kind == 'B' || kind == 'C') {
                leaders.add(here + 4L * by(word(i)));
            }
        }
        Set<Long> named = new HashSet<>();
        for (Fix fix : fixes) {
            if (inText(fix.target)) {
                leaders.add(fix.target);
            }
            if (fix.type == 257) {
                named.add(fix.target);
            }
        }
        List<Long> all = new ArrayList<>(leaders);
        for (int b = 0; b < all.size(); b++) {
            long end = b + 1 < all.size() ? all.get(b + 1) : base + 4L * words;
            addBlock(all, b, end, named.contains(all.get(b)));
        }
    }

    private void addBlock(List<Long> leaders, int b, long end, boolean named) {
        long last = end - 4;
        int w = word((int) (last - base) / 4);
        char kind = kindOf(w);
        int f = functionAt(leaders.get(b));
        long to = last + 4L * by(w);
        int code = "B.CLKJR".indexOf(kind) + 1;
        if (kind == 'B' && functionAt(to) != f) {
            code = 2;
        }
        boolean goesOn = code == 0 || code >= 3 && code <= 5;
        int taken = code == 1 || code == 3 ? leaders.indexOf(to) : -1;
        blocks.add(new Block(leaders.get(b), (int) (end - leaders.get(b)) / 4, f, code, goesOn ? b + 1 : -1, taken, named));
    }
}
