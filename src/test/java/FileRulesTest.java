/** Promises 4 and 5: each rule of 1 to 6, the order in which fields are looked at, and the place that is told. */
public final class FileRulesTest {
    private static Prog prog;
    private static byte[] good;

    public static void main(String[] args) {
        prog = sample();
        good = prog.file();
        Due.is("the sample is taken", answer(good), 2);
        Due.is("its place", placeOf(good), -1);
        fileHead();
        segments();
        sectionHeads();
        sectionAsks();
        sectionsTogether();
        linksAndNames();
        symbols();
        fixes();
        entry();
        edgesThatHold();
        Due.end("FileRulesTest");
    }

    /** Data segment 0 may be written, data segment 1 not; a note behind all. */
    private static Prog sample() {
        Prog p = new Prog();
        p.data(6, 64);
        p.data(4, 40);
        p.noteBytes = 6;
        p.function("main").dataAddress(1, 0, 8).bl("other").label("back").codeAddress(3, "back").exit().b("back");
        p.put(Word.br(3));
        p.function("other").put(Word.NOP).label("inner").put(Word.ret(30));
        p.pointer(0, 0, "inner").pointer(0, 16, "main").pointerToData(1, 8, 0, 32);
        p.noFix();
        return p;
    }

    private static int answer(byte[] file) {
        CodeLayout x = new CodeLayout();
        Feeder.feed(x, file);
        return x.read();
    }

    private static int placeOf(byte[] file) {
        CodeLayout x = new CodeLayout();
        Feeder.feed(x, file);
        x.read();
        return x.place();
    }

    private static Bytes with(int at, int n, long value) {
        return new Bytes(good).put(at, n, value);
    }

    private static void breaks(String what, Bytes file, int rule, int at) {
        Due.is(what + ": read()", answer(file.bytes), -rule);
        Due.is(what + ": place()", placeOf(file.bytes), at);
    }

    private static void takes(String what, Bytes file) {
        Due.is(what + ": read()", answer(file.bytes), 2);
        Due.is(what + ": place()", placeOf(file.bytes), -1);
    }

    private static byte[] shortened(int n) {
        return java.util.Arrays.copyOf(good, n);
    }

    private static void fileHead() {
        breaks("empty", new Bytes(new byte[0]), 1, 0);
        breaks("63 bytes", new Bytes(shortened(63)), 1, 63);
        breaks("64 bytes", new Bytes(shortened(64)), 1, 40);
        breaks("a byte less", new Bytes(shortened(good.length - 1)), 1, 40);
        for (int i = 0; i < 16; i++) {
            breaks("byte " + i, with(i, 1, 77), 1, 0);
        }
        breaks("16", with(16, 2, 3), 1, 16);
        breaks("18", with(18, 2, 62), 1, 18);
        breaks("20", with(20, 4, 2), 1, 20);
        breaks("32", with(32, 8, 65), 1, 32);
        breaks("32 high", with(36, 4, 1), 1, 32);
        breaks("SHOFF", with(40, 8, prog.headsOffset() + 8), 1, 40);
        breaks("SHOFF huge", with(40, 8, -8), 1, 40);
        breaks("48", with(48, 4, 1), 1, 48);
        breaks("52", with(52, 2, 63), 1, 52);
        breaks("54", with(54, 2, 55), 1, 54);
        breaks("n 0", with(56, 2, 0), 1, 56);
        breaks("n 5", with(56, 2, 5), 1, 56);
        breaks("58", with(58, 2, 63), 1, 58);
        breaks("m 4", with(60, 2, 4), 1, 60);
        breaks("m 17", with(60, 2, 17), 1, 60);
        breaks("NAMES 0", with(62, 2, 0), 1, 62);
        breaks("NAMES m", with(62, 2, prog.sections()), 1, 62);
        breaks("SHOFF is looked at last", with(40, 8, 1).put(62, 2, 0), 1, 62);
        breaks("m one more", with(60, 2, prog.sections() + 1), 1, 40);
        breaks("fields by their places", with(16, 2, 3).put(62, 2, 0), 1, 16);
        breaks("m 16 in a short file", new Bytes(java.util.Arrays.copyOf(with(60, 2, 16).bytes, 64)), 1, 40);
        // SHOFF not a multiple of 8, though all lies where it says.
        byte[] longer = new byte[good.length + 4];
        System.arraycopy(good, 0, longer, 0, prog.headsOffset());
        System.arraycopy(good, prog.headsOffset(), longer, prog.headsOffset() + 4, 64 * prog.sections());
        breaks("SHOFF no multiple of 8", new Bytes(longer).put(40, 8, prog.headsOffset() + 4), 1, 40);
    }

    private static void segments() {
        int first = Prog.segmentHead(0);
        int second = Prog.segmentHead(1);
        int last = Prog.segmentHead(2);
        breaks("type", with(second, 4, 2), 2, second);
        breaks("flags 7", with(first + 4, 4, 7), 2, first + 4);
        breaks("flags 5 not last", with(first + 4, 4, 5), 2, first + 4);
        breaks("flags 4 last", with(last + 4, 4, 4), 2, last + 4);
        breaks("OFFSET in the heads", with(first + 8, 8, 64 + 56 * 3 - 16), 2, first + 8);
        breaks("OFFSET before the end", with(second + 8, 8, prog.dataOffset(1) - 16), 2, second + 8);
        breaks("OFFSET huge", with(first + 8, 8, -16 + (prog.dataAddress(0) & 15)), 2, first + 32);
        breaks("ADDRESS low", with(first + 16, 8, 65536 - 16), 2, first + 16);
        breaks("ADDRESS high", with(first + 16, 8, 134217728 + 16), 2, first + 16);
        breaks("ADDRESS negative", with(first + 16, 8, -65536), 2, first + 16);
        breaks("ADDRESS less OFFSET", with(first + 16, 8, prog.dataAddress(0) + 8), 2, first + 16);
        breaks("ADDRESS before the end", with(second + 16, 8, prog.dataAddress(0) + 48).put(second + 24, 8, 0), 2,
            second + 16);
        breaks("ADDRESS again", with(first + 24, 8, prog.dataAddress(0) + 16), 2, first + 24);
        breaks("SIZE 0", with(first + 32, 8, 0), 2, first + 32);
        breaks("SIZE too much", with(first + 32, 8, 4194305), 2, first + 32);
        breaks("SIZE beyond SHOFF", with(last + 32, 8, prog.headsOffset() - prog.textOffset() + 1), 2, last + 32);
        breaks("SIZE negative", with(last + 32, 8, -4), 2, last + 32);
        int most = prog.headsOffset() - prog.textOffset();
        breaks("SIZE up to SHOFF is the TEXT's no more", with(last + 32, 8, most).put(last + 40, 8, most), 3,
            head(prog.textSection()) + 32);
        breaks("the least ADDRESS is the DATA's no more", with(first + 16, 8, 65536).put(first + 24, 8, 65536), 3,
            head(1) + 16);
        breaks("the greatest ADDRESS is the TEXT's no more", with(last + 16, 8, 134217728).put(last + 24, 8,
            134217728), 3, head(prog.textSection()) + 16);
        breaks("SIZE again", with(first + 40, 8, 63), 2, first + 40);
        breaks("align", with(first + 48, 8, 8), 2, first + 48);
        breaks("heads one by one", with(first + 48, 8, 8).put(second, 4, 2), 2, first + 48);
        breaks("fields by their places", with(first + 48, 8, 8).put(first + 4, 4, 5), 2, first + 4);
        breaks("rule 2 before 3", with(last + 48, 8, 8).put(prog.sectionHead(0), 1, 1), 2, last + 48);
    }

    private static int head(int s) {
        return prog.sectionHead(s);
    }

    private static void sectionHeads() {
        int text = prog.textSection();
        int names = prog.nameSection();
        int note = prog.noteSection();
        for (int i = 0; i < 64; i += 9) {
            breaks("section 0", with(head(0) + i, 1, 1), 3, head(0));
        }
        breaks("TYPE 0", with(head(1) + 4, 4, 0), 3, head(1) + 4);
        breaks("TYPE 5", with(head(1) + 4, 4, 5), 3, head(1) + 4);
        breaks("FLAGS of type 1", with(head(1) + 8, 8, 1), 3, head(1) + 8);
        breaks("FLAGS high", with(head(1) + 12, 4, 1), 3, head(1) + 8);
        breaks("FLAGS of TEXTS", with(head(names) + 8, 8, 2), 3, head(names) + 8);
        breaks("FLAGS of SYMBOLS", with(head(prog.symbolSection()) + 8, 8, 6), 3, head(prog.symbolSection()) + 8);
        breaks("OFFSET low", with(head(1) + 24, 8, 64 + 56 * 3 - 1), 3, head(1) + 24);
        breaks("OFFSET huge", with(head(1) + 24, 8, -1), 3, head(1) + 32);
        breaks("SIZE beyond", with(head(note) + 32, 8, prog.headsOffset() - prog.nameOffset() - 8 + 1), 3,
            head(note) + 32);
        breaks("SIZE huge", with(head(note) + 32, 8, -1), 3, head(note) + 32);
        breaks("OFFSET beyond", with(head(note) + 24, 8, prog.headsOffset() + 1).put(head(note) + 32, 8, 0), 3,
            head(note) + 32);
        breaks("TYPE before FLAGS", with(head(1) + 4, 4, 9).put(head(1) + 8, 8, 9), 3, head(1) + 4);
        breaks("OFFSET before SIZE", with(head(1) + 24, 8, 1).put(head(1) + 32, 8, -1), 3, head(1) + 24);
        breaks("sections one by one", with(head(1) + 32, 8, -1).put(head(2) + 4, 4, 9), 3, head(1) + 32);
        breaks("TEXT's ADDRESS", with(head(text) + 16, 8, prog.textAddress() + 2), 3, head(text) + 16);
        breaks("TEXT's SIZE", with(head(text) + 32, 8, 4 * prog.words.size() - 2), 3, head(text) + 32);
        breaks("TEXT's SIZE as the segment's", with(head(text) + 32, 8, 4 * prog.words.size() - 2).put(
            Prog.segmentHead(2) + 32, 8, 4 * prog.words.size() - 2).put(Prog.segmentHead(2) + 40, 8,
            4 * prog.words.size() - 2), 3, head(text) + 32);
        breaks("OFFSET before TEXT's ADDRESS", with(head(text) + 16, 8, 2).put(head(text) + 24, 8, 1), 3,
            head(text) + 24);
    }

    private static void sectionAsks() {
        int symbols = prog.symbolSection();
        int fixes = prog.textFixSection();
        int names = prog.nameSection();
        breaks("SYMBOLS' SIZE 0", with(head(symbols) + 32, 8, 0), 3, head(symbols) + 32);
        breaks("SYMBOLS' SIZE", with(head(symbols) + 32, 8, 25), 3, head(symbols) + 32);
        breaks("SYMBOLS' ENTSIZE", with(head(symbols) + 56, 8, 23), 3, head(symbols) + 56);
        breaks("FIXES' SIZE", with(head(fixes) + 32, 8, 23), 3, head(fixes) + 32);
        breaks("FIXES' ENTSIZE", with(head(fixes) + 56, 8, 0), 3, head(fixes) + 56);
        breaks("TEXTS' SIZE 0", with(head(names) + 32, 8, 0), 3, head(names) + 32);
        breaks("TEXTS of one byte lack but names", with(head(names) + 32, 8, 1), 3, head(1));
        breaks("TEXTS' first byte", with(prog.nameOffset(), 1, 1), 3, prog.nameOffset());
        breaks("TEXTS' last byte", with(prog.nameOffset() + 7, 1, 1), 3, prog.nameOffset() + 7);
        breaks("TEXTS' first before last", with(prog.nameOffset(), 8, -1), 3, prog.nameOffset());
    }

    private static void sectionsTogether() {
        int text = prog.textSection();
        int names = prog.nameSection();
        int note = prog.noteSection();
        int symbols = prog.symbolSection();
        breaks("two TEXTs", with(head(1) + 8, 8, 6), 3, 60);
        breaks("no TEXT", with(head(text) + 8, 8, 2), 3, 60);
        breaks("no SYMBOLS", with(head(symbols) + 4, 4, 4), 3, 60);
        breaks("two SYMBOLS", with(head(prog.textFixSection()) + 4, 4, 2), 3, 60);
        breaks("TEXT's ADDRESS", with(head(text) + 16, 8, prog.textAddress() + 4), 3, head(text) + 16);
        breaks("TEXT's OFFSET", with(head(text) + 24, 8, prog.textOffset() + 4), 3, head(text) + 24);
        breaks("TEXT's SIZE", with(head(text) + 32, 8, 4 * prog.words.size() - 4), 3, head(text) + 32);
        breaks("TEXT before DATA", with(head(text) + 32, 8, 4).put(head(1) + 16, 8, 0), 3, head(text) + 32);
        breaks("DATA in no segment", with(head(1) + 16, 8, 65536), 3, head(1) + 16);
        breaks("DATA too long", with(head(1) + 32, 8, 65), 3, head(1) + 16);
        breaks("DATA's ADDRESS - OFFSET", with(head(1) + 16, 8, prog.dataAddress(0) + 8).put(head(1) + 32, 8, 8), 3,
            head(1) + 16);
        breaks("DATA to write in a segment of flags 4", with(head(2) + 8, 8, 3), 3, head(2) + 16);
        breaks("DATA in the last segment", with(head(1) + 16, 8, prog.textAddress()).put(head(1) + 24, 8,
            prog.textOffset()).put(head(1) + 32, 8, 4), 3, head(1) + 16);
        breaks("DATA before OFFSETS", with(head(2) + 16, 8, 0).put(head(note) + 24, 8, prog.textEnd() - 1), 3,
            head(2) + 16);
        breaks("NOTE before the TEXT's end", with(head(note) + 24, 8, prog.textEnd() - 1), 3, head(note) + 24);
        breaks("TEXTS before the TEXT's end", with(head(names) + 24, 8, prog.dataOffset(0) + 24), 3,
            head(names) + 24);
        breaks("OFFSETS before overlaps", with(head(note) + 24, 8, prog.textOffset()).put(
            head(prog.dataFixSection(0)) + 24, 8, prog.fixOffset()), 3, head(note) + 24);
        breaks("a note in the TEXTS", with(head(note) + 24, 8, prog.nameOffset() + 7), 3, head(note) + 24);
        breaks("DATA over DATA", with(head(2) + 16, 8, prog.dataAddress(0) + 56).put(head(2) + 24, 8,
            prog.dataOffset(0) + 56).put(head(2) + 32, 8, 8), 3, head(2) + 24);
        breaks("two overlaps", with(head(note) + 24, 8, prog.nameOffset() + 7).put(head(prog.dataFixSection(0)) + 24,
            8, prog.fixOffset()), 3, head(prog.dataFixSection(0)) + 24);
    }

    private static void linksAndNames() {
        int symbols = prog.symbolSection();
        int fixes = prog.textFixSection();
        int moreFixes = prog.dataFixSection(0);
        int names = prog.nameSection();
        breaks("SYMBOLS' LINK", with(head(symbols) + 40, 4, prog.noteSection()), 3, head(symbols) + 40);
        breaks("SYMBOLS' LINK huge", with(head(symbols) + 40, 4, -1), 3, head(symbols) + 40);
        breaks("SYMBOLS' LINK 0", with(head(symbols) + 40, 4, 0), 3, head(symbols) + 40);
        breaks("FIXES' LINK", with(head(fixes) + 40, 4, names), 3, head(fixes) + 40);
        breaks("LINKS before INFOS", with(head(fixes) + 44, 4, 0).put(head(symbols) + 40, 4, 0), 3,
            head(symbols) + 40);
        breaks("FIXES' INFO", with(head(fixes) + 44, 4, names), 3, head(fixes) + 44);
        breaks("FIXES' INFO huge", with(head(fixes) + 44, 4, 0x7FFFFFFF), 3, head(fixes) + 44);
        breaks("INFO of two", with(head(moreFixes) + 44, 4, prog.textSection()), 3, head(moreFixes) + 44);
        breaks("INFOS before NAMES", with(head(fixes) + 44, 4, 0).put(62, 2, 1), 3, head(fixes) + 44);
        breaks("NAMES no TEXTS", with(62, 2, 1), 3, 62);
        breaks("NAMES before names", with(62, 2, 1).put(head(1), 4, 99), 3, 62);
        breaks("a name", with(head(1), 4, 8), 3, head(1));
        breaks("a name huge", with(head(names), 4, -1), 3, head(names));
        takes("the last place of a name", with(head(1), 4, 7));
    }

    private static void symbols() {
        int main = prog.symbolAt(prog.functionSymbol(0));
        int ofText = prog.symbolAt(1);
        int ofData = prog.symbolAt(2);
        breaks("first symbol", with(prog.symbolAt(0) + 20, 1, 1), 4, prog.symbolAt(0));
        breaks("name", with(ofText, 4, 8), 4, ofText);
        breaks("name huge", with(ofText, 4, -1), 4, ofText);
        breaks("SECTION", with(ofText + 6, 2, prog.nameSection()), 4, ofText + 6);
        breaks("SECTION beyond", with(ofText + 6, 2, prog.sections()), 4, ofText + 6);
        breaks("SECTION 65520", with(ofText + 6, 2, 65520), 4, ofText + 6);
        breaks("VALUE before the TEXT", with(main + 8, 8, prog.textAddress() - 4), 4, main + 8);
        breaks("VALUE behind the TEXT's end", with(ofText + 8, 8, prog.textAddress() + 4 * prog.words.size() + 4), 4,
            ofText + 8);
        breaks("VALUE no multiple of 4", with(ofText + 8, 8, prog.textAddress() + 2), 4, ofText + 8);
        breaks("VALUE negative", with(ofText + 8, 8, -4), 4, ofText + 8);
        breaks("symbols one by one", with(ofText + 8, 8, 0).put(ofData, 4, -1), 4, ofText + 8);
        breaks("name before SECTION", with(ofText, 4, -1).put(ofText + 6, 2, 99), 4, ofText);
        breaks("rule 4 before 5", with(ofText, 4, -1).put(prog.fixOffset() + 8, 4, 1), 4, ofText);
    }

    private static void fixes() {
        int fix = prog.fixOffset();
        int ofData = prog.dataFixOffset(0);
        int none = prog.dataFixOffset(0) - 24;
        breaks("TYPE of the TEXT", with(fix + 8, 4, 257), 5, fix + 8);
        breaks("TYPE of DATA", with(ofData + 8, 4, 275), 5, ofData + 8);
        breaks("TYPE 276", with(fix + 8, 4, 276), 5, fix + 8);
        breaks("TYPE first", with(fix + 8, 4, 276).put(fix, 8, 0), 5, fix + 8);
        breaks("PLACE before", with(fix, 8, prog.textAddress() - 4), 5, fix);
        breaks("PLACE behind", with(fix, 8, prog.textAddress() + 4 * prog.words.size()), 5, fix);
        breaks("PLACE no multiple of 4", with(fix, 8, prog.textAddress() + 2), 5, fix);
        breaks("PLACE odd", with(fix, 8, prog.textAddress() + 1), 5, fix);
        breaks("PLACE in DATA odd", with(ofData, 8, prog.dataAddress(0) + 1), 5, ofData);
        breaks("PLACE negative", with(fix, 8, -4), 5, fix);
        breaks("PLACE before the symbol", with(fix, 8, 0).put(fix + 12, 4, 999), 5, fix);
        breaks("symbol", with(fix + 12, 4, prog.symbolCount()), 5, fix + 12);
        breaks("symbol huge", with(fix + 12, 4, -1), 5, fix + 12);
        breaks("PLACE in DATA", with(ofData, 8, prog.dataAddress(0) + 64), 5, ofData);
        breaks("PLACE no multiple of 8", with(ofData, 8, prog.dataAddress(0) + 4), 5, ofData);
        breaks("the same PLACE", with(fix + 24, 8, prog.textAddress()), 5, fix + 24);
        breaks("the same PLACE in DATA", with(ofData + 24, 8, prog.dataAddress(0)), 5, ofData + 24);
        breaks("TYPE 0 with PLACE", with(none, 8, 4), 5, none);
        breaks("TYPE 0 with a symbol", with(none + 12, 4, 1), 5, none + 12);
        breaks("TYPE 0 with ADDEND", with(none + 16, 8, 1), 5, none + 16);
        breaks("TYPE 0, fields by place", with(none + 16, 8, 1).put(none, 8, 8), 5, none);
        breaks("rule 5 before 6", with(fix + 12, 4, -1).put(24, 8, 0), 5, fix + 12);
        // The long of a fix ends with its section, not with its segment.
        breaks("a long over the section's end", with(head(2) + 32, 8, 15), 5, prog.dataFixOffset(1));
    }

    private static void entry() {
        breaks("ENTRY 0", with(24, 8, 0), 6, 24);
        breaks("ENTRY odd", with(24, 8, prog.textAddress() + 1), 6, 24);
        breaks("ENTRY the TEXT's end", with(24, 8, prog.textAddress() + 4 * prog.words.size()), 6, 24);
        breaks("ENTRY huge", with(24, 8, -4), 6, 24);
        takes("ENTRY the last word", with(24, 8, prog.textAddress() + 4 * prog.words.size() - 4));
    }

    /** The sample without the fixes of the second data segment. */
    private static Bytes withoutDataFixes() {
        return with(head(prog.dataFixSection(1)) + 32, 8, 0);
    }

    private static void edgesThatHold() {
        int ofData = prog.symbolAt(2);
        int ofText = prog.symbolAt(1);
        int note = prog.noteSection();
        takes("section's field that may be any", with(head(1) + 48, 8, -1));
        takes("symbol's byte that may be any", with(ofText + 5, 1, 77));
        takes("symbol's SIZE that may be any", with(ofText + 16, 8, -1));
        takes("DATA of flags 2 in a segment of flags 6", with(head(1) + 8, 8, 2));
        takes("an empty note inside others", with(head(note) + 24, 8, prog.fixOffset() + 4).put(head(note) + 32, 8, 0));
        takes("empty FIXES inside others", withoutDataFixes().put(head(prog.dataFixSection(1)) + 24, 8,
            prog.symbolOffset() + 8));
        takes("an empty note at the end", with(head(note) + 24, 8, prog.headsOffset()).put(head(note) + 32, 8, 0));
        takes("a note that begins where the TEXT ends", with(head(note) + 24, 8, prog.textEnd()).put(head(note) + 32,
            8, prog.fixOffset() - prog.textEnd()));
        takes("the entry may be any word", with(24, 8, prog.textAddress() + 4));
        int one = Prog.segmentHead(1);
        takes("a segment of one byte", withoutDataFixes().put(one + 32, 8, 1).put(one + 40, 8, 1).put(head(2) + 32, 8,
            1));
        long end = prog.dataAddress(0) + 64;
        takes("a segment that begins where one ends", withoutDataFixes().put(one + 16, 8, end).put(one + 24, 8, end)
            .put(head(2) + 16, 8, end));
        takes("DATA behind DATA", withoutDataFixes().put(head(1) + 32, 8, 48).put(head(2) + 16, 8,
            prog.dataAddress(0) + 48).put(head(2) + 24, 8, prog.dataOffset(0) + 48).put(head(2) + 32, 8, 16));
        CodeLayout x = new CodeLayout();
        Feeder.feed(x, with(ofData + 6, 2, 65521).bytes);
        Due.is("a symbol of no section", x.read(), 2);
    }
}
