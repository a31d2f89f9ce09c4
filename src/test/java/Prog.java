import java.util.ArrayList;
import java.util.HashMap;
import java.util.List;
import java.util.Map;

/**
 * Puts a file together from data and from words with labels. Section i + 1 is the DATA of data segment i, then come
 * the TEXT, its FIXES, the FIXES of each DATA, the SYMBOLS, the TEXTS. Symbol 1 is the TEXT, symbols from 2 on the
 * data segments, then all functions.
 */
final class Prog {
    static final int B = 0x14000000;
    static final int BL = 0x94000000;

    private record Use(int word, String label, int shape) {
    }

    private record Fix(int place, int type, int symbol, String label, long addend) {
    }

    private static final int GOES_26 = 0;
    private static final int GOES_19 = 1;
    private static final int GOES_14 = 2;
    private static final int PAGE_TEXT = 3;
    private static final int LOW_TEXT = 4;

    final List<byte[]> data = new ArrayList<>();
    final List<Integer> dataFlags = new ArrayList<>();
    final List<Integer> words = new ArrayList<>();
    final List<String> functionNames = new ArrayList<>();
    final List<Integer> functionStarts = new ArrayList<>();
    private final Map<String, Integer> labels = new HashMap<>();
    private final List<Use> uses = new ArrayList<>();
    private final List<int[]> dataUses = new ArrayList<>();
    private final List<Fix> textFixes = new ArrayList<>();
    private final List<List<Fix>> dataFixes = new ArrayList<>();
    private final List<long[]> extraSymbols = new ArrayList<>();
    String entry;
    int noteBytes;
    /** So many notes without bytes come behind all other sections. */
    int emptyNotes;
    /** The TEXT begins so many bytes behind the multiple of 16 that comes behind the data; a multiple of 4. */
    int textMore;
    /** The segments' addresses begin so much higher. */
    long higher;

    int data(int flags, int bytes) {
        data.add(new byte[bytes]);
        dataFlags.add(flags);
        dataFixes.add(new ArrayList<>());
        return data.size() - 1;
    }

    Prog function(String name) {
        functionNames.add(name);
        functionStarts.add(words.size());
        return label(name);
    }

    Prog label(String name) {
        labels.put(name, words.size());
        return this;
    }

    Prog put(int... more) {
        for (int w : more) {
            words.add(w);
        }
        return this;
    }

    private Prog use(int w, String label, int shape) {
        uses.add(new Use(words.size(), label, shape));
        return put(w);
    }

    Prog b(String label) {
        return use(B, label, GOES_26);
    }

    Prog bl(String label) {
        return use(BL, label, GOES_26);
    }

    Prog bFixed(String label) {
        textFixes.add(new Fix(words.size(), 282, 1, label, 0));
        return b(label);
    }

    Prog blFixed(String label) {
        textFixes.add(new Fix(words.size(), 283, 1, label, 0));
        return bl(label);
    }

    Prog bcond(int condition, String label) {
        return use(0x54000000 | condition, label, GOES_19);
    }

    Prog cbz(int d, String label) {
        return use(0xB4000000 | d, label, GOES_19);
    }

    Prog cbnz(int d, String label) {
        return use(0xB5000000 | d, label, GOES_19);
    }

    Prog cbzWord(int d, String label) {
        return use(0x34000000 | d, label, GOES_19);
    }

    Prog tbz(int d, int bit, String label) {
        return use(0x36000000 | bit >> 5 << 31 | (bit & 31) << 19 | d, label, GOES_14);
    }

    Prog tbnz(int d, int bit, String label) {
        return use(0x37000000 | bit >> 5 << 31 | (bit & 31) << 19 | d, label, GOES_14);
    }

    /** ADRP and ADD: the address of a label, with fixes. */
    Prog codeAddress(int d, String label) {
        return codePage(d, label).codeLow(d, d, label);
    }

    Prog codePage(int d, String label) {
        textFixes.add(new Fix(words.size(), 275, 1, label, 0));
        return use(0x90000000 | d, label, PAGE_TEXT);
    }

    Prog codeLow(int d, int n, String label) {
        textFixes.add(new Fix(words.size(), 277, 1, label, 0));
        return use(Word.addNumber(d, n, 0), label, LOW_TEXT);
    }

    /** ADRP and ADD: the address of a byte of a data segment, with fixes. */
    Prog dataAddress(int d, int segment, int offset) {
        return dataPage(d, segment, offset).dataLow(Word.addNumber(d, d, 0), 277, segment, offset);
    }

    Prog dataPage(int d, int segment, int offset) {
        textFixes.add(new Fix(words.size(), 275, 2 + segment, null, offset));
        dataUses.add(new int[] {words.size(), segment, offset, -1});
        return put(0x90000000 | d);
    }

    /** A word whose number is the low part of an address in data: ADD 277, or a load or store 278, 285, 286. */
    Prog dataLow(int w, int type, int segment, int offset) {
        int width = type == 285 ? 2 : type == 286 ? 3 : 0;
        textFixes.add(new Fix(words.size(), type, 2 + segment, null, offset));
        dataUses.add(new int[] {words.size(), segment, offset, width});
        return put(w);
    }

    /** A long of a data segment that is the address of a label. */
    Prog pointer(int segment, int offset, String label) {
        dataFixes.get(segment).add(new Fix(offset, 257, 1, label, 0));
        return this;
    }

    Prog pointerToData(int segment, int offset, int toSegment, int toOffset) {
        dataFixes.get(segment).add(new Fix(offset, 257, 2 + toSegment, null, toOffset));
        return this;
    }

    /** A fix of TYPE 0 among those of the TEXT. */
    Prog noFix() {
        textFixes.add(new Fix(0, 0, 0, null, 0));
        return this;
    }

    /** One more symbol: kind, section, value, size. */
    Prog symbol(int kind, int section, long value, long size) {
        extraSymbols.add(new long[] {kind, section, value, size});
        return this;
    }

    Prog number(int d, long value) {
        put(Word.movz(d, (int) (value & 0xFFFF), 0));
        for (int i = 1; i < 4; i++) {
            int part = (int) (value >>> 16 * i & 0xFFFF);
            if (part != 0) {
                put(Word.movk(d, part, i));
            }
        }
        return this;
    }

    Prog movz0() {
        return put(Word.movz(0, 0, 0));
    }

    Prog exit() {
        return put(Word.movz(8, 93, 0), Word.CALL);
    }

    int segments() {
        return data.size() + 1;
    }

    int textSection() {
        return data.size() + 1;
    }

    int textFixSection() {
        return data.size() + 2;
    }

    int dataFixSection(int segment) {
        return data.size() + 3 + segment;
    }

    int symbolSection() {
        return 2 * data.size() + 3;
    }

    int nameSection() {
        return symbolSection() + 1;
    }

    int noteSection() {
        return symbolSection() + 2;
    }

    int sections() {
        return symbolSection() + (noteBytes > 0 ? 3 : 2) + emptyNotes;
    }

    int dataOffset(int segment) {
        int at = 64 + 56 * segments() + 15 & ~15;
        for (int i = 0; i < segment; i++) {
            at = at + data.get(i).length + 15 & ~15;
        }
        return at;
    }

    long dataAddress(int segment) {
        return higher + 65536L * (segment + 1) + dataOffset(segment);
    }

    int textOffset() {
        return dataOffset(data.size()) + textMore;
    }

    long textAddress() {
        return higher + 65536L * segments() + textOffset();
    }

    long address(String label) {
        return textAddress() + 4L * labels.get(label);
    }

    int textEnd() {
        return textOffset() + 4 * words.size();
    }

    int fixOffset() {
        return textEnd() + 7 & ~7;
    }

    int dataFixOffset(int segment) {
        int at = fixOffset() + 24 * textFixes.size();
        for (int i = 0; i < segment; i++) {
            at += 24 * dataFixes.get(i).size();
        }
        return at;
    }

    int symbolOffset() {
        return dataFixOffset(data.size());
    }

    int symbolCount() {
        return 2 + data.size() + functionNames.size() + extraSymbols.size();
    }

    int functionSymbol(int f) {
        return 2 + data.size() + f;
    }

    int nameOffset() {
        return symbolOffset() + 24 * symbolCount();
    }

    int headsOffset() {
        return nameOffset() + 8 + noteBytes + 7 & ~7;
    }

    int sectionHead(int s) {
        return headsOffset() + 64 * s;
    }

    static int segmentHead(int i) {
        return 64 + 56 * i;
    }

    /** A file with its sections in another order: section s becomes section to[s]. */
    byte[] reordered(int[] to) {
        Bytes old = new Bytes(file());
        Bytes out = new Bytes(old.bytes);
        for (int s = 1; s < sections(); s++) {
            for (int i = 0; i < 64; i++) {
                out.put(sectionHead(to[s]) + i, 1, old.get(sectionHead(s) + i, 1));
            }
            int type = (int) old.get(sectionHead(s) + 4, 4);
            if (type == 2 || type == 4) {
                out.put(sectionHead(to[s]) + 40, 4, to[(int) old.get(sectionHead(s) + 40, 4)]);
                out.put(sectionHead(to[s]) + 44, 4, to[(int) old.get(sectionHead(s) + 44, 4)]);
            }
        }
        for (int k = 0; k < symbolCount(); k++) {
            int section = (int) old.get(symbolAt(k) + 6, 2);
            out.put(symbolAt(k) + 6, 2, section < to.length ? to[section] : section);
        }
        return out.put(62, 2, to[nameSection()]).bytes;
    }

    byte[] file() {
        Bytes out = new Bytes(headsOffset() + 64 * sections());
        out.put(0, 1, 127).put(1, 1, 69).put(2, 1, 76).put(3, 1, 70).put(4, 1, 2).put(5, 1, 1).put(6, 1, 1);
        out.put(16, 2, 2).put(18, 2, 183).put(20, 4, 1);
        out.put(24, 8, entry == null ? textAddress() : address(entry));
        out.put(32, 8, 64).put(40, 8, headsOffset()).put(52, 2, 64).put(54, 2, 56).put(56, 2, segments());
        out.put(58, 2, 64).put(60, 2, sections()).put(62, 2, nameSection());
        for (int i = 0; i < data.size(); i++) {
            putSegment(out, i, dataFlags.get(i), dataOffset(i), dataAddress(i), data.get(i).length);
            System.arraycopy(data.get(i), 0, out.bytes, dataOffset(i), data.get(i).length);
        }
        putSegment(out, data.size(), 5, textOffset(), textAddress(), 4 * words.size());
        putWords(out);
        putSections(out);
        putFixes(out);
        putSymbols(out);
        return out.bytes;
    }

    private static void putSegment(Bytes out, int i, int flags, int offset, long address, int size) {
        int head = segmentHead(i);
        out.put(head, 4, 1).put(head + 4, 4, flags).put(head + 8, 8, offset).put(head + 16, 8, address);
        out.put(head + 24, 8, address).put(head + 32, 8, size).put(head + 40, 8, size).put(head + 48, 8, 16);
    }

    private void putWords(Bytes out) {
        int[] made = new int[words.size()];
        for (int i = 0; i < made.length; i++) {
            made[i] = words.get(i);
        }
        for (Use use : uses) {
            made[use.word] |= bits(use);
        }
        for (int[] use : dataUses) {
            long to = dataAddress(use[1]) + use[2];
            made[use[0]] |= use[3] < 0 ? pageBits(use[0], to) : (int) (to & 0xFFF) >> use[3] << 10;
        }
        for (int i = 0; i < made.length; i++) {
            out.put(textOffset() + 4 * i, 4, made[i]);
        }
    }

    private int bits(Use use) {
        int distance = labels.get(use.label) - use.word;
        switch (use.shape) {
            case GOES_26:
                return distance & 0x3FFFFFF;
            case GOES_19:
                return (distance & 0x7FFFF) << 5;
            case GOES_14:
                return (distance & 0x3FFF) << 5;
            case PAGE_TEXT:
                return pageBits(use.word, address(use.label));
            default:
                return (int) (address(use.label) & 0xFFF) << 10;
        }
    }

    private int pageBits(int word, long to) {
        int pages = (int) ((to >> 12) - (textAddress() + 4L * word >> 12));
        return (pages & 3) << 29 | (pages >> 2 & 0x7FFFF) << 5;
    }

    private void putSections(Bytes out) {
        for (int i = 0; i < data.size(); i++) {
            int flags = dataFlags.get(i) == 6 ? 3 : 2;
            putSection(out, 1 + i, 1, flags, dataAddress(i), dataOffset(i), data.get(i).length, 0, 0);
            putSection(out, dataFixSection(i), 4, 0, 0, dataFixOffset(i), 24 * dataFixes.get(i).size(),
                symbolSection(), 1 + i);
        }
        putSection(out, textSection(), 1, 6, textAddress(), textOffset(), 4 * words.size(), 0, 0);
        putSection(out, textFixSection(), 4, 0, 0, fixOffset(), 24 * textFixes.size(), symbolSection(), textSection());
        putSection(out, symbolSection(), 2, 0, 0, symbolOffset(), 24 * symbolCount(), nameSection(), 0);
        putSection(out, nameSection(), 3, 0, 0, nameOffset(), 8, 0, 0);
        if (noteBytes > 0) {
            putSection(out, noteSection(), 1, 0, 0, nameOffset() + 8, noteBytes, 0, 0);
            for (int i = 0; i < noteBytes; i++) {
                out.put(nameOffset() + 8 + i, 1, i + 1);
            }
        }
        for (int i = 0; i < emptyNotes; i++) {
            putSection(out, sections() - 1 - i, 1, 0, 0, headsOffset(), 0, 0, 0);
        }
        out.put(nameOffset() + 1, 1, 'a');
    }

    private void putSection(Bytes out, int s, int type, long flags, long address, int offset, int size, int link,
        int info) {
        int head = sectionHead(s);
        out.put(head, 4, 1).put(head + 4, 4, type).put(head + 8, 8, flags).put(head + 16, 8, address);
        out.put(head + 24, 8, offset).put(head + 32, 8, size).put(head + 40, 4, link).put(head + 44, 4, info);
        out.put(head + 56, 8, type == 2 || type == 4 ? 24 : 0);
    }

    private void putFixes(Bytes out) {
        for (int k = 0; k < textFixes.size(); k++) {
            Fix fix = textFixes.get(k);
            long place = fix.type == 0 ? 0 : textAddress() + 4L * fix.place;
            putFix(out, fixOffset() + 24 * k, fix, place);
        }
        for (int i = 0; i < data.size(); i++) {
            for (int k = 0; k < dataFixes.get(i).size(); k++) {
                Fix fix = dataFixes.get(i).get(k);
                long to = fix.label == null ? dataAddress(fix.symbol - 2) + fix.addend : address(fix.label);
                putFix(out, dataFixOffset(i) + 24 * k, fix, dataAddress(i) + fix.place);
                out.put(dataOffset(i) + fix.place, 8, to);
            }
        }
    }

    private void putFix(Bytes out, int at, Fix fix, long place) {
        long addend = fix.label == null ? fix.addend : address(fix.label) - textAddress();
        out.put(at, 8, place).put(at + 8, 4, fix.type).put(at + 12, 4, fix.symbol).put(at + 16, 8, addend);
    }

    private void putSymbols(Bytes out) {
        putSymbol(out, 1, 3, textSection(), textAddress(), 0);
        for (int i = 0; i < data.size(); i++) {
            putSymbol(out, 2 + i, 3, 1 + i, dataAddress(i), 0);
        }
        for (int f = 0; f < functionNames.size(); f++) {
            int from = functionStarts.get(f);
            int to = f + 1 < functionNames.size() ? functionStarts.get(f + 1) : words.size();
            putSymbol(out, functionSymbol(f), 18, textSection(), textAddress() + 4L * from, 4L * (to - from));
        }
        for (int k = 0; k < extraSymbols.size(); k++) {
            long[] more = extraSymbols.get(k);
            putSymbol(out, functionSymbol(functionNames.size()) + k, (int) more[0], (int) more[1], more[2], more[3]);
        }
    }

    int symbolAt(int k) {
        return symbolOffset() + 24 * k;
    }

    private void putSymbol(Bytes out, int k, int kind, int section, long value, long size) {
        int at = symbolAt(k);
        out.put(at, 4, 1).put(at + 4, 1, kind).put(at + 6, 2, section).put(at + 8, 8, value).put(at + 16, 8, size);
    }
}
