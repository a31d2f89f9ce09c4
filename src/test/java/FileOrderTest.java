import java.util.ArrayList;
import java.util.List;

/** Terms 1, 2 and 10: of two things that are wrong in a file, the one that the document puts first is told. */
public final class FileOrderTest {
    /** Bytes that break one rule; each patch is a place, how many bytes, and what they become (or stay). */
    private record Break(String name, int rule, int place, long[][] patches) {
        void apply(Bytes file) {
            for (long[] patch : patches) {
                file.put((int) patch[0], (int) patch[1], patch[2]);
            }
        }

        boolean touches(Break other) {
            for (long[] mine : patches) {
                for (long[] its : other.patches) {
                    if (mine[0] < its[0] + its[1] && its[0] < mine[0] + mine[1]) {
                        return true;
                    }
                }
            }
            return false;
        }
    }

    private static final int NOTE_BYTES = 24;
    private static Prog prog;
    private static Bytes good;
    private static final List<Break> breaks = new ArrayList<>();

    public static void main(String[] args) {
        prog = sample();
        good = new Bytes(prog.file());
        Feeder.taken("the sample", good.bytes, 2);
        fileHead();
        segmentHeads();
        sectionHeads();
        acrossSections();
        symbols();
        fixes();
        takenApart();
        eachAlone();
        eachPair();
        Due.end("FileOrderTest");
    }

    private static Prog sample() {
        Prog p = new Prog();
        p.data(6, 64);
        p.data(4, 48);
        p.noteBytes = NOTE_BYTES;
        p.function("main").dataAddress(1, 0, 8).blFixed("other").label("back").bcond(Word.EQ, "back");
        p.noFix().dataAddress(2, 1, 16).exit().b("back");
        p.function("other").put(Word.NOP).bl("main").put(Word.NOP).bFixed("main");
        return p.pointer(0, 8, "back").pointer(0, 16, "other").pointer(1, 0, "main").pointerToData(1, 8, 0, 4);
    }

    /** What is broken later by the document is added later. */
    private static void add(String name, int rule, long place, long... patch) {
        long[][] patches = new long[patch.length / 3][];
        for (int i = 0; i < patches.length; i++) {
            patches[i] = new long[] {patch[3 * i], patch[3 * i + 1], patch[3 * i + 2]};
        }
        breaks.add(new Break(name, rule, (int) place, patches));
    }

    private static int head(int s) {
        return prog.sectionHead(s);
    }

    /** Fields by their places, but SHOFF last. */
    private static void fileHead() {
        add("the beginning", 1, 0, 15, 1, 1);
        int[][] fields = {{16, 2, 3}, {18, 2, 62}, {20, 4, 2}, {32, 8, 65}, {48, 4, 1}, {52, 2, 63}, {54, 2, 32},
            {56, 2, 5}, {58, 2, 40}, {60, 2, 17}, {62, 2, 0}};
        for (int[] f : fields) {
            add("field " + f[0], 1, f[0], f[0], f[1], f[2]);
        }
        add("SHOFF", 1, 40, 40, 8, prog.headsOffset() + 8);
    }

    private static void segmentHeads() {
        for (int i = 0; i < 3; i++) {
            int at = Prog.segmentHead(i);
            long address = good.get(at + 16, 8);
            long size = good.get(at + 32, 8);
            add("TYPE of segment " + i, 2, at, at, 4, 2);
            add("flags of segment " + i, 2, at + 4, at + 4, 4, i == 2 ? 4 : 5);
            add("OFFSET of segment " + i, 2, at + 8, at + 8, 8, 64);
            add("ADDRESS of segment " + i, 2, at + 16, at + 16, 8, address + 8);
            add("ADDRESS again of segment " + i, 2, at + 24, at + 24, 8, address + 16);
            add("SIZE of segment " + i, 2, at + 32, at + 32, 8, prog.headsOffset());
            add("SIZE again of segment " + i, 2, at + 40, at + 40, 8, size + 4);
            add("the last field of segment " + i, 2, at + 48, at + 48, 8, 8);
        }
    }

    private static void sectionHeads() {
        add("section 0", 3, head(0), head(0) + 63, 1, 1);
        for (int s = 1; s < prog.sections(); s++) {
            int at = head(s);
            add("TYPE of section " + s, 3, at + 4, at + 4, 4, 5);
            add("FLAGS of section " + s, 3, at + 8, at + 8, 8, 1);
            add("OFFSET of section " + s, 3, at + 24, at + 24, 8, 64);
            add("SIZE of section " + s, 3, at + 32, at + 32, 8, prog.headsOffset());
            asksOfType(s, at);
        }
    }

    private static void asksOfType(int s, int at) {
        long size = good.get(at + 32, 8);
        if (s == prog.textSection()) {
            add("ADDRESS of the TEXT no multiple of 4", 3, at + 16, at + 16, 8, prog.textAddress() + 2);
            add("SIZE of the TEXT no multiple of 4", 3, at + 32, at + 32, 8, size - 2);
        }
        int type = (int) good.get(at + 4, 4);
        if (type == 2 || type == 4) {
            add("SIZE of entries in " + s, 3, at + 32, at + 32, 8, size - 1);
            add("ENTSIZE of " + s, 3, at + 56, at + 56, 8, 25);
        }
        if (type == 3) {
            int first = prog.nameOffset();
            add("TEXTS of no byte", 3, at + 32, at + 32, 8, 0);
            add("the first byte of TEXTS", 3, first, first, 1, 1);
            add("the last byte of TEXTS", 3, first + size - 1, first + size - 1, 1, 1);
        }
    }

    /** What is looked at over all sections, one thing behind the other. */
    private static void acrossSections() {
        int note = head(prog.noteSection());
        int text = head(prog.textSection());
        add("two TEXT", 3, 60, note + 8, 8, 6);
        add("two SYMBOLS", 3, 60, note + 4, 4, 2, note + 8, 8, 0, note + 56, 8, 24);
        add("the TEXT's ADDRESS", 3, text + 16, text + 16, 8, prog.textAddress() + 4);
        add("the TEXT's OFFSET", 3, text + 24, text + 24, 8, prog.textOffset() + 4);
        add("the TEXT's SIZE", 3, text + 32, text + 32, 8, 4 * prog.words.size() - 4);
        for (int i = 0; i < 2; i++) {
            add("DATA " + i, 3, head(1 + i) + 16, head(1 + i) + 16, 8, prog.dataAddress(i) + 8);
        }
        for (int s = prog.textFixSection(); s < prog.sections(); s++) {
            if (s != prog.nameSection()) {
                add("OFFSET of " + s, 3, head(s) + 24, head(s) + 24, 8, prog.textEnd() - 24);
            }
        }
        add("bytes of two", 3, note + 24, note + 24, 8, prog.symbolOffset());
        for (int s = prog.textFixSection(); s <= prog.symbolSection(); s++) {
            add("LINK of " + s, 3, head(s) + 40, head(s) + 40, 4, 1);
        }
        for (int s = prog.textFixSection(); s < prog.symbolSection(); s++) {
            add("INFO of " + s, 3, head(s) + 44, head(s) + 44, 4, prog.nameSection());
        }
        add("NAMES", 3, 62, 62, 2, prog.noteSection());
        for (int s = 1; s < prog.sections(); s++) {
            add("the name of " + s, 3, head(s), head(s), 4, 1000);
        }
    }

    private static void symbols() {
        add("symbol 0", 4, prog.symbolAt(0), prog.symbolAt(0) + 23, 1, 1);
        for (int k = 1; k < prog.symbolCount(); k++) {
            int at = prog.symbolAt(k);
            add("the name of symbol " + k, 4, at, at, 4, 8);
            add("SECTION of symbol " + k, 4, at + 6, at + 6, 2, prog.noteSection());
            if (good.get(at + 6, 2) == prog.textSection()) {
                add("VALUE of symbol " + k, 4, at + 8, at + 8, 8, prog.textAddress() - 4);
            }
        }
    }

    private static void fixes() {
        for (int fix = prog.fixOffset(); fix < prog.symbolOffset(); fix += 24) {
            if (good.get(fix + 8, 4) == 0) {
                add("PLACE of a fix of TYPE 0", 5, fix, fix, 8, prog.textAddress());
                add("symbol of a fix of TYPE 0", 5, fix + 12, fix + 12, 4, 1);
                add("ADDEND of a fix of TYPE 0", 5, fix + 16, fix + 16, 8, 8);
                continue;
            }
            boolean first = fix == prog.fixOffset() || fix == prog.dataFixOffset(0) || fix == prog.dataFixOffset(1);
            add("TYPE of a fix", 5, fix + 8, fix + 8, 4, 300);
            add("PLACE of a fix", 5, fix, fix, 8, good.get(fix, 8) + 1);
            if (!first && good.get(fix - 24 + 8, 4) != 0) {
                long before = good.get(fix - 24, 8);
                add("the same PLACE again", 5, fix, fix - 24, 8, before, fix, 8, before);
            }
            add("symbol of a fix", 5, fix + 12, fix + 12, 4, prog.symbolCount());
        }
        add("ENTRY", 6, 24, 24, 8, prog.textAddress() + 2);
    }

    private static int word(int i) {
        return prog.textOffset() + 4 * i;
    }

    private static void takenApart() {
        int function = prog.symbolAt(prog.functionSymbol(0));
        add("a function's SIZE", 7, prog.textOffset(), function + 16, 8, good.get(function + 16, 8) + 4);
        for (int i = 0; i < prog.words.size(); i++) {
            add("word " + i + " is no instruction", 8, word(i), word(i), 4, 0);
        }
        for (int fix = prog.fixOffset(); fix < prog.symbolOffset(); fix += 24) {
            if (good.get(fix + 8, 4) != 0) {
                add("TARGET of a fix", 9, fix, fix + 16, 8, good.get(fix + 16, 8) + 4100);
            }
        }
        int fix = prog.fixOffset();
        add("ADRP without a fix", 10, word(0), fix, 8, 0, fix + 8, 8, 0, fix + 16, 8, 0);
        add("B.cond out of the function", 11, word(3), word(3), 4, 0x54000000 | 8 << 5);
        int call = prog.functionStarts.get(1) + 1;
        add("BL into a function", 11, word(call), word(call), 4, 0x94000001);
        add("the last word", 12, word(8), word(8), 4, Word.NOP);
    }

    private static void eachAlone() {
        for (Break one : breaks) {
            Bytes file = new Bytes(good.bytes);
            one.apply(file);
            Feeder.refused(one.name, file.bytes, one.rule, one.place);
        }
    }

    private static void eachPair() {
        for (int i = 0; i < breaks.size(); i++) {
            for (int k = i + 1; k < breaks.size(); k++) {
                Break first = breaks.get(i);
                Break second = breaks.get(k);
                if (!first.touches(second)) {
                    Bytes file = new Bytes(good.bytes);
                    first.apply(file);
                    second.apply(file);
                    Feeder.refused(first.name + " and " + second.name, file.bytes, first.rule, first.place);
                }
            }
        }
    }
}
