/** Writes a new file as the document's words 5 say it, from the old one's bytes and from where Naive placed its blocks. */
final class NaiveFile {
    private final CodeLayout x;
    private final Naive naive;
    private final Bytes old;
    private final int textPlace;
    private final long base;
    private final long textSize;
    private final long newSize;
    private final int heads;
    private final int sections;
    private final int shift;
    private final Bytes out;
    private int textSection;
    private int symbols;
    private int symbolBytes;

    NaiveFile(CodeLayout of, Naive placed, byte[] file, long bytes) {
        x = of;
        naive = placed;
        old = new Bytes(file);
        int segment = lastSegment();
        textPlace = (int) old.get(segment + 8, 8);
        base = old.get(segment + 16, 8);
        textSize = old.get(segment + 32, 8);
        newSize = bytes;
        heads = (int) old.get(40, 8);
        sections = (int) old.get(60, 2);
        int d = -16 * 4096;
        while (d < newSize - textSize) {
            d += 16;
        }
        shift = d;
        out = new Bytes(new byte[file.length + shift]);
    }

    private int lastSegment() {
        return 64 + 56 * ((int) old.get(56, 2) - 1);
    }

    byte[] make() {
        int end = (int) (textPlace + textSize);
        System.arraycopy(old.bytes, 0, out.bytes, 0, textPlace);
        System.arraycopy(old.bytes, end, out.bytes, end + shift, old.bytes.length - end);
        findSections();
        for (int b = 0; b < x.count(1); b++) {
            putBlock(b, naive.behind(b));
        }
        putHeads();
        putSymbols();
        for (int s = 1; s < sections; s++) {
            if (old.get(heads + 64 * s + 4, 4) == 4) {
                putFixes(s);
            }
        }
        return out.bytes;
    }

    private void findSections() {
        for (int s = 1; s < sections; s++) {
            int head = heads + 64 * s;
            if (old.get(head + 4, 4) == 1 && old.get(head + 8, 8) == 6) {
                textSection = s;
            }
            if (old.get(head + 4, 4) == 2) {
                symbols = (int) old.get(head + 24, 8);
                symbolBytes = (int) old.get(head + 32, 8);
            }
        }
    }

    private boolean inText(long address) {
        return address >= base && address < base + textSize;
    }

    private int blockAt(long address) {
        int b = 0;
        while (b + 1 < x.count(1) && x.block(b + 1, 0) <= address) {
            b++;
        }
        return b;
    }

    private long moved(long address) {
        if (!inText(address)) {
            return address;
        }
        int b = blockAt(address);
        return naive.start[b] + address - x.block(b, 0);
    }

    private void word(long address, int w) {
        out.put(textPlace + (int) (address - base), 4, w);
    }

    private static int within(int w, int bits, int from, long distance) {
        int mask = (1 << bits) - 1;
        return w & ~(mask << from) | ((int) (distance >> 2) & mask) << from;
    }

    private void goes(long address, int w, long to) {
        word(address, within(w, 26, 0, to - address));
    }

    private void putBlock(int b, int behind) {
        long at = naive.start[b];
        int words = (int) x.block(b, 1);
        int from = textPlace + (int) (x.block(b, 0) - base);
        for (int i = 0; i + 1 < words; i++) {
            word(at + 4 * i, (int) old.get(from + 4 * i, 4));
        }
        int w = (int) old.get(from + 4 * words - 4, 4);
        long here = at + 4 * words - 4;
        long next = here + 4;
        switch ((int) x.block(b, 3)) {
            case 1:
            case 2:
            case 4:
                if (!naive.leaves(b, behind)) {
                    goes(here, w, moved(x.block(b, 0) + 4 * words - 4 + 4L * (w << 6 >> 6)));
                }
                break;
            case 3:
                next = putConditional(b, behind, w, here);
                break;
            default:
                word(here, w);
                break;
        }
        if (naive.putsB(b, behind)) {
            goes(next, Prog.B, naive.start[b + 1]);
        }
    }

    private static int turned(int w) {
        return (w & 0xFF000000) == 0x54000000 ? w ^ 1 : w ^ 1 << 24;
    }

    private long putConditional(int b, int behind, int w, long here) {
        boolean turns = naive.turns(b, behind);
        long to = naive.start[(int) (turns ? x.block(b, 4) : x.block(b, 5))];
        int shown = turns ? turned(w) : w;
        int bits = (w & 0x7E000000) == 0x36000000 ? 14 : 19;
        if (!naive.isLong[b]) {
            word(here, within(shown, bits, 5, to - here));
            return here + 4;
        }
        word(here, within(turned(shown), bits, 5, 8));
        goes(here + 4, Prog.B, to);
        return here + 8;
    }

    private void putHeads() {
        int segment = lastSegment();
        out.put(24, 8, moved(old.get(24, 8))).put(40, 8, heads + shift);
        out.put(segment + 32, 8, newSize).put(segment + 40, 8, newSize);
        for (int s = 1; s < sections; s++) {
            int head = heads + 64 * s;
            long offset = old.get(head + 24, 8);
            if (offset >= textPlace + textSize) {
                out.put(head + shift + 24, 8, offset + shift);
            }
            if (s == textSection) {
                out.put(head + shift + 32, 8, newSize);
            }
        }
    }

    private long newValue(int symbol) {
        long value = old.get(symbol + 8, 8);
        if (old.get(symbol + 6, 2) != textSection) {
            return value;
        }
        return value == base + textSize ? base + newSize : moved(value);
    }

    private void putSymbols() {
        for (int at = symbols; at < symbols + symbolBytes; at += 24) {
            out.put(at + shift + 8, 8, newValue(at));
            boolean function = old.get(at + 6, 2) == textSection && (old.get(at + 4, 1) & 15) == 2;
            for (int f = 0; function && f < x.count(0); f++) {
                if (x.function(f, 0) == old.get(at + 8, 8)) {
                    out.put(at + shift + 16, 8, naive.newSize(f));
                }
            }
        }
    }

    private void putFixes(int s) {
        int from = (int) old.get(heads + 64 * s + 24, 8);
        int end = from + (int) old.get(heads + 64 * s + 32, 8);
        int info = (int) old.get(heads + 64 * s + 44, 4);
        for (int fix = from; fix < end; fix += 24) {
            int type = (int) old.get(fix + 8, 4);
            if (type != 0) {
                putFix(fix, type, info);
            }
        }
    }

    private void putFix(int fix, int type, int info) {
        int symbol = symbols + 24 * (int) old.get(fix + 12, 4);
        long place = old.get(fix, 8);
        long target = old.get(symbol + 8, 8) + old.get(fix + 16, 8);
        long to = moved(target);
        out.put(fix + shift + 16, 8, to - newValue(symbol));
        if (type == 257) {
            long more = place - old.get(heads + 64 * info + 16, 8);
            out.put((int) (old.get(heads + 64 * info + 24, 8) + more), 8, to);
            return;
        }
        int b = blockAt(place);
        if (naive.leaves(b, naive.behind(b)) && place == x.block(b, 0) + 4 * x.block(b, 1) - 4) {
            out.put(fix + shift, 8, 0).put(fix + shift + 8, 8, 0).put(fix + shift + 16, 8, 0);
            return;
        }
        long here = moved(place);
        out.put(fix + shift, 8, here);
        int at = textPlace + (int) (here - base);
        int w = (int) out.get(at, 4);
        if (type == 275) {
            long pages = (to >> 12) - (here >> 12);
            out.put(at, 4, w & 0x9F00001F | (int) (pages & 3) << 29 | (int) (pages >> 2 & 0x7FFFF) << 5);
        } else if (type == 277 && inText(target)) {
            out.put(at, 4, w & ~(0xFFF << 10) | (int) (to & 0xFFF) << 10);
        }
    }
}
