/** Terms 1 and 10: of each field of a file the values at, right below and right above what is allowed. */
public final class FileEdgesTest {
    private static final long TOP = Long.MIN_VALUE;
    private static Prog prog;
    private static byte[] good;

    public static void main(String[] args) {
        prog = sample();
        good = prog.file();
        Feeder.taken("the sample", good, 2);
        fieldsOfTheHead();
        numbersOfHeads();
        sectionHeadsOffset();
        sumThatWraps();
        sectionHeadsAtTheBeginning();
        segmentFields();
        segmentOffsets();
        segmentAddresses();
        segmentSizes();
        sectionZero();
        sectionTypes();
        sectionOffsets();
        textNoMultipleOfFour();
        entrySizes();
        shortTexts();
        textAsTheSegment();
        dataInItsSegment();
        emptyData();
        dataOverTwoSegments();
        dataFlags();
        emptyNotes();
        bytesOfTwo();
        links();
        names();
        freeFields();
        twoTexts();
        anyOrder();
        sixteenSections();
        symbolFields();
        symbolValues();
        fixTypes();
        fixesThatSayNothing();
        fixPlaces();
        placesToldTwice();
        fixSymbols();
        targetsThatWrap();
        entries();
        Due.end("FileEdgesTest");
    }

    /** Segments 0 and 1 are data without fixes, 2 is the TEXT of nine words; a note of six bytes behind all. */
    private static Prog sample() {
        Prog p = new Prog();
        p.data(6, 64);
        p.data(4, 48);
        p.noteBytes = 6;
        p.function("main").dataAddress(1, 0, 8).bl("other").label("back").exit().b("back");
        p.function("other").put(Word.NOP, Word.NOP, Word.ret(30));
        return p;
    }

    private static Bytes with(int at, int n, long value) {
        return new Bytes(good).put(at, n, value);
    }

    private static void refused(String what, Bytes file, int rule, int at) {
        Feeder.refused(what, file.bytes, rule, at);
    }

    private static void taken(String what, Bytes file) {
        Feeder.taken(what, file.bytes, 2);
    }

    private static int head(int s) {
        return prog.sectionHead(s);
    }

    private static int answer(Bytes file) {
        CodeLayout x = new CodeLayout();
        Feeder.feed(x, file.bytes);
        return x.read();
    }

    /** A field of n bytes that is to be one number alone: one less, one more, and with its highest bit. */
    private static void oneNumber(String what, int at, int n, long value, int rule) {
        for (long wrong : new long[] {value - 1, value + 1, value ^ 1L << 8 * n - 1}) {
            refused(what + " " + wrong, with(at, n, wrong), rule, at);
        }
    }

    private static void fieldsOfTheHead() {
        int[][] fields = {{16, 2, 2}, {18, 2, 183}, {20, 4, 1}, {32, 8, 64}, {48, 4, 0}, {52, 2, 64}, {54, 2, 56},
            {58, 2, 64}};
        for (int[] f : fields) {
            oneNumber("field " + f[0], f[0], f[1], f[2], 1);
        }
        int[] beginning = {127, 69, 76, 70, 2, 1, 1, 0, 0, 0, 0, 0, 0, 0, 0, 0};
        for (int i = 0; i < 16; i++) {
            refused("byte " + i + " one more", with(i, 1, beginning[i] + 1), 1, 0);
            refused("byte " + i + " one less", with(i, 1, beginning[i] - 1), 1, 0);
        }
        for (int n = 0; n < 64; n++) {
            refused(n + " bytes", new Bytes(java.util.Arrays.copyOf(good, n)), 1, n);
        }
    }

    private static void numbersOfHeads() {
        for (int n : new int[] {0, 5, 6, 65535}) {
            refused("n " + n, with(56, 2, n), 1, 56);
        }
        for (int m : new int[] {0, 1, 4, 17, 18, 65535}) {
            refused("m " + m, with(60, 2, m), 1, 60);
        }
        int m = prog.sections();
        for (int names : new int[] {0, m, m + 1, 65535}) {
            refused("NAMES " + names, with(62, 2, names), 1, 62);
        }
        refused("m one less", with(60, 2, m - 1), 1, 40);
        refused("m one more", with(60, 2, m + 1), 1, 40);
    }

    /** The heads of sections so many bytes later. */
    private static Bytes later(int more) {
        Bytes file = new Bytes(new byte[good.length + more]);
        System.arraycopy(good, 0, file.bytes, 0, prog.headsOffset());
        System.arraycopy(good, prog.headsOffset(), file.bytes, prog.headsOffset() + more, 64 * prog.sections());
        return file.put(40, 8, prog.headsOffset() + more);
    }

    private static void sectionHeadsOffset() {
        for (int more = 1; more < 8; more++) {
            refused("SHOFF no multiple of 8 by " + more, later(more), 1, 40);
        }
        taken("SHOFF 8 later", later(8));
        refused("SHOFF 8 later, the heads not", with(40, 8, prog.headsOffset() + 8), 1, 40);
        refused("SHOFF 8 before the heads", with(40, 8, prog.headsOffset() - 8), 1, 40);
        refused("SHOFF with its highest bit", with(40, 8, prog.headsOffset() | TOP), 1, 40);
        refused("SHOFF with bit 32", with(40, 8, prog.headsOffset() | 1L << 32), 1, 40);
        refused("a byte more behind all", new Bytes(java.util.Arrays.copyOf(good, good.length + 1)), 1, 40);
    }

    /** SHOFF + 64 m would be the file's length if the sum could wrap. */
    private static void sumThatWraps() {
        for (int m : new int[] {5, 16}) {
            Bytes file = new Bytes(java.util.Arrays.copyOf(good, 64)).put(60, 2, m).put(62, 2, 1);
            refused("SHOFF + 64 m wraps", file.put(40, 8, 64 - 64 * m), 1, 40);
        }
    }

    /** SHOFF 0 is a multiple of 8, and the file's length may be 64 m: then no segment ends before it. */
    private static void sectionHeadsAtTheBeginning() {
        Bytes file = new Bytes(java.util.Arrays.copyOf(good, 320)).put(40, 8, 0).put(56, 2, 1).put(60, 2, 5);
        file.put(62, 2, 4).put(64, 4, 1).put(68, 4, 5).put(72, 8, 128).put(80, 8, 65536 + 128).put(88, 8, 65536 + 128);
        refused("SHOFF 0", file.put(96, 8, 4), 2, 96);
    }

    private static void segmentFields() {
        for (int i = 0; i < 3; i++) {
            int at = Prog.segmentHead(i);
            oneNumber("TYPE of segment " + i, at, 4, 1, 2);
            for (int flags = -1; flags < 9; flags++) {
                boolean fits = i == 2 ? flags == 5 : flags == 4 || flags == 6;
                if (!fits) {
                    refused("flags " + flags + " of segment " + i, with(at + 4, 4, flags), 2, at + 4);
                }
            }
            long address = i == 2 ? prog.textAddress() : prog.dataAddress(i);
            oneNumber("ADDRESS again of segment " + i, at + 24, 8, address, 2);
            long size = i == 2 ? 4 * prog.words.size() : prog.data.get(i).length;
            oneNumber("SIZE again of segment " + i, at + 40, 8, size, 2);
            oneNumber("the last field of segment " + i, at + 48, 8, 16, 2);
            for (int more = 1; more < 16; more++) {
                refused("ADDRESS - OFFSET by " + more, with(at + 16, 8, address + more), 2, at + 16);
            }
            refused("ADDRESS below 0", with(at + 16, 8, address | TOP), 2, at + 16);
        }
    }

    private static void segmentOffsets() {
        int first = Prog.segmentHead(0);
        int second = Prog.segmentHead(1);
        int least = 64 + 56 * 3;
        refused("OFFSET in the heads' last byte", with(first + 8, 8, least - 1), 2, first + 8);
        refused("OFFSET 0", with(first + 8, 8, 0), 2, first + 8);
        // The least OFFSET is no multiple of 16; the DATA stand elsewhere then.
        refused("the least OFFSET", with(first + 8, 8, least).put(first + 16, 8, 65536 + least).put(first + 24, 8,
            65536 + least), 3, head(1) + 16);
        Due.is("OFFSET where the segment before ends", prog.dataOffset(1), prog.dataOffset(0) + 64);
        refused("OFFSET in the last byte of the one before", with(second + 8, 8, prog.dataOffset(1) - 1), 2,
            second + 8);
        refused("OFFSET + SIZE wraps", with(first + 8, 8, -48).put(first + 32, 8, 64), 2, first + 32);
    }

    private static void segmentAddresses() {
        int first = Prog.segmentHead(0);
        int second = Prog.segmentHead(1);
        int last = Prog.segmentHead(2);
        refused("ADDRESS 65535", with(first + 8, 8, 255).put(first + 16, 8, 65535), 2, first + 16);
        refused("ADDRESS 65536", with(first + 16, 8, 65536).put(first + 24, 8, 65536), 3, head(1) + 16);
        refused("ADDRESS 134217729", with(last + 8, 8, prog.textOffset() + 1).put(last + 16, 8, 134217729), 2,
            last + 16);
        refused("ADDRESS 134217728", with(last + 16, 8, 134217728).put(last + 24, 8, 134217728), 3,
            head(prog.textSection()) + 16);
        long end = prog.dataAddress(0) + 64;
        taken("ADDRESS where the segment before ends", with(second + 16, 8, end).put(second + 24, 8, end)
            .put(head(2) + 16, 8, end));
        refused("ADDRESS in the last byte of the one before", with(second + 8, 8, prog.dataOffset(1) + 15)
            .put(second + 16, 8, end - 1), 2, second + 16);
    }

    private static void segmentSizes() {
        int first = Prog.segmentHead(0);
        int last = Prog.segmentHead(2);
        int most = prog.headsOffset() - prog.textOffset();
        for (long size : new long[] {0, -1, TOP, 4194304, 4194305, 1L << 32 | 64}) {
            refused("SIZE " + size, with(first + 32, 8, size).put(first + 40, 8, size), 2, first + 32);
        }
        refused("SIZE up to SHOFF", with(last + 32, 8, most).put(last + 40, 8, most), 3,
            head(prog.textSection()) + 32);
        refused("SIZE one beyond SHOFF", with(last + 32, 8, most + 1).put(last + 40, 8, most + 1), 2, last + 32);
    }

    private static void sectionZero() {
        for (int i = 0; i < 64; i++) {
            refused("byte " + i + " of section 0", with(head(0) + i, 1, 1), 3, head(0));
            refused("byte " + i + " of section 0", with(head(0) + i, 1, 128), 3, head(0));
        }
    }

    private static void sectionTypes() {
        for (int s = 1; s < prog.sections(); s++) {
            for (int type : new int[] {0, 5, 6, 8, -1, Integer.MIN_VALUE, Integer.MIN_VALUE + 1}) {
                refused("TYPE " + type, with(head(s) + 4, 4, type), 3, head(s) + 4);
            }
            int type = (int) new Bytes(good).get(head(s) + 4, 4);
            for (long flags : new long[] {1, 4, 5, 7, 8, 1L << 32, TOP, TOP | 2, 6 | 1L << 32, -1}) {
                refused("FLAGS " + flags, with(head(s) + 8, 8, flags), 3, head(s) + 8);
            }
            if (type != 1) {
                refused("FLAGS 2 of TYPE " + type, with(head(s) + 8, 8, 2), 3, head(s) + 8);
                refused("FLAGS 3 of TYPE " + type, with(head(s) + 8, 8, 3), 3, head(s) + 8);
                refused("FLAGS 6 of TYPE " + type, with(head(s) + 8, 8, 6), 3, head(s) + 8);
            }
        }
    }

    private static void sectionOffsets() {
        for (int s = 1; s < prog.sections(); s++) {
            refused("OFFSET 0", with(head(s) + 24, 8, 0), 3, head(s) + 24);
            refused("OFFSET in the heads", with(head(s) + 24, 8, 64 + 56 * 3 - 1), 3, head(s) + 24);
            refused("OFFSET beyond SHOFF", with(head(s) + 24, 8, prog.headsOffset() + 1), 3, head(s) + 32);
            refused("OFFSET with its highest bit", with(head(s) + 24, 8, TOP), 3, head(s) + 32);
            long offset = new Bytes(good).get(head(s) + 24, 8);
            refused("SIZE beyond SHOFF", with(head(s) + 32, 8, prog.headsOffset() - offset + 1), 3, head(s) + 32);
            refused("OFFSET + SIZE wraps", with(head(s) + 32, 8, -offset), 3, head(s) + 32);
            refused("SIZE with its highest bit", with(head(s) + 32, 8, TOP | 24), 3, head(s) + 32);
        }
        // The least OFFSET of a section is that of a segment.
        int first = Prog.segmentHead(0);
        int least = 64 + 56 * 3;
        long address = 65536 + least;
        taken("the least OFFSET", with(first + 8, 8, least).put(first + 16, 8, address).put(first + 24, 8, address)
            .put(head(1) + 16, 8, address).put(head(1) + 24, 8, least));
        int note = prog.noteSection();
        int most = prog.headsOffset() - prog.nameOffset() - 8;
        taken("a note up to SHOFF", with(head(note) + 32, 8, most));
        refused("a note one beyond SHOFF", with(head(note) + 32, 8, most + 1), 3, head(note) + 32);
    }

    /** ADDRESS or SIZE of the TEXT no multiple of 4, though as those of the segment. */
    private static void textNoMultipleOfFour() {
        int last = Prog.segmentHead(2);
        int text = head(prog.textSection());
        for (int more = 1; more < 4; more++) {
            long address = prog.textAddress() + more;
            int size = 4 * prog.words.size() - 4;
            Bytes moved = with(last + 8, 8, prog.textOffset() + more).put(last + 16, 8, address)
                .put(last + 24, 8, address).put(last + 32, 8, size).put(last + 40, 8, size);
            moved.put(text + 16, 8, address).put(text + 24, 8, prog.textOffset() + more).put(text + 32, 8, size);
            refused("ADDRESS", moved, 3, text + 16);
            size = 4 * prog.words.size() - more;
            refused("SIZE", with(last + 32, 8, size).put(last + 40, 8, size).put(text + 32, 8, size), 3, text + 32);
        }
    }

    private static void entrySizes() {
        int symbols = head(prog.symbolSection());
        int fixes = head(prog.textFixSection());
        for (int more : new int[] {-23, -12, -1, 1, 12, 23}) {
            refused("SYMBOLS' SIZE", with(symbols + 32, 8, 48 + more), 3, symbols + 32);
            refused("FIXES' SIZE", with(fixes + 32, 8, 24 + more), 3, fixes + 32);
        }
        refused("SYMBOLS' SIZE 0", with(symbols + 32, 8, 0), 3, symbols + 32);
        oneNumber("SYMBOLS' ENTSIZE", symbols + 56, 8, 24, 3);
        oneNumber("FIXES' ENTSIZE", fixes + 56, 8, 24, 3);
        refused("SIZE before ENTSIZE", with(symbols + 56, 8, 0).put(symbols + 32, 8, 25), 3, symbols + 32);
        // With one symbol, the first, there are no functions; with no fixes ADRP has none.
        refused("one symbol", with(symbols + 32, 8, 24).put(fixes + 32, 8, 0), 7, prog.textOffset());
        refused("no fixes", with(fixes + 32, 8, 0), 10, prog.textOffset());
    }

    private static void shortTexts() {
        int names = head(prog.nameSection());
        refused("TEXTS of no byte", with(names + 32, 8, 0), 3, names + 32);
        Bytes one = with(names + 32, 8, 1);
        for (int s = 1; s < prog.sections(); s++) {
            one.put(head(s), 4, 0);
        }
        for (int k = 1; k < prog.symbolCount(); k++) {
            one.put(prog.symbolAt(k), 4, 0);
        }
        taken("TEXTS of one byte", one);
        refused("which is not 0", one.put(prog.nameOffset(), 1, 255), 3, prog.nameOffset());
        refused("the last byte", with(prog.nameOffset() + 7, 1, 255), 3, prog.nameOffset() + 7);
        taken("a byte between", with(prog.nameOffset() + 6, 1, 255));
    }

    private static void textAsTheSegment() {
        int text = head(prog.textSection());
        for (int more : new int[] {-4, 4}) {
            refused("ADDRESS", with(text + 16, 8, prog.textAddress() + more), 3, text + 16);
            refused("OFFSET", with(text + 24, 8, prog.textOffset() + more), 3, text + 24);
            refused("SIZE", with(text + 32, 8, 4 * prog.words.size() + more), 3, text + 32);
        }
        refused("ADDRESS with bit 32", with(text + 16, 8, prog.textAddress() | 1L << 32), 3, text + 16);
        // With no DATA right before it OFFSET alone is wrong.
        Prog p = new Prog();
        p.data(6, 8);
        p.function("f").put(Word.ret(30));
        int head = p.sectionHead(p.textSection());
        for (int more : new int[] {-8, -4, 4}) {
            Feeder.refused("OFFSET alone", new Bytes(p.file()).put(head + 24, 8, p.textOffset() + more).bytes, 3,
                head + 24);
        }
    }

    /** Section 1 moved by so many bytes in memory and in the file. */
    private static Bytes data(long addressMore, long offsetMore, long size) {
        return with(head(1) + 16, 8, prog.dataAddress(0) + addressMore).put(head(1) + 24, 8,
            prog.dataOffset(0) + offsetMore).put(head(1) + 32, 8, size);
    }

    private static void dataInItsSegment() {
        taken("all of it", data(0, 0, 64));
        taken("but its first byte", data(1, 1, 63));
        taken("but its last byte", data(0, 0, 63));
        taken("its last byte", data(63, 63, 1));
        refused("a byte more", data(0, 0, 65), 3, head(1) + 16);
        refused("a byte more, begun later", data(1, 1, 64), 3, head(1) + 16);
        refused("a byte before", data(-1, -1, 1), 3, head(1) + 16);
        refused("a byte behind", data(64, 64, 1), 3, head(1) + 16);
        refused("OFFSET one more", data(0, 1, 8), 3, head(1) + 16);
        refused("OFFSET one less", data(8, 7, 8), 3, head(1) + 16);
        refused("ADDRESS with its highest bit", data(TOP, 0, 64), 3, head(1) + 16);
        refused("ADDRESS with bit 32", data(1L << 32, 0, 64), 3, head(1) + 16);
    }

    private static void emptyData() {
        taken("none at the segment's beginning", data(0, 0, 0));
        taken("none at the segment's end", data(64, 64, 0));
        refused("none behind the segment's end", data(65, 65, 0), 3, head(1) + 16);
        refused("none before the segment", data(-1, -1, 0), 3, head(1) + 16);
    }

    private static void dataOverTwoSegments() {
        int second = Prog.segmentHead(1);
        long end = prog.dataAddress(0) + 64;
        Bytes close = data(0, 0, 65).put(second + 4, 4, 6).put(second + 16, 8, end).put(second + 24, 8, end);
        close.put(head(2) + 16, 8, end + 8).put(head(2) + 24, 8, prog.dataOffset(1) + 8).put(head(2) + 32, 8, 8);
        refused("a byte of the next segment", close, 3, head(1) + 16);
        taken("none of it", close.put(head(1) + 32, 8, 64));
    }

    private static void dataFlags() {
        taken("FLAGS 2 in a segment of flags 6", with(head(1) + 8, 8, 2));
        refused("FLAGS 3 in a segment of flags 4", with(head(2) + 8, 8, 3), 3, head(2) + 16);
        refused("FLAGS 3, and the segment's flags become 4", with(Prog.segmentHead(0) + 4, 4, 4), 3, head(1) + 16);
        taken("FLAGS 3 of both, the segments' flags 6", with(head(2) + 8, 8, 3).put(Prog.segmentHead(1) + 4, 4, 6));
        refused("in the last segment", with(head(2) + 16, 8, prog.textAddress()).put(head(2) + 24, 8,
            prog.textOffset()).put(head(2) + 32, 8, 4), 3, head(2) + 16);
        refused("nothing, in the last segment", with(head(2) + 16, 8, prog.textAddress()).put(head(2) + 24, 8,
            prog.textOffset()).put(head(2) + 32, 8, 0), 3, head(2) + 16);
    }

    private static void emptyNotes() {
        int note = head(prog.noteSection());
        refused("a byte before the TEXT's end", with(note + 24, 8, prog.textEnd() - 1).put(note + 32, 8, 0), 3,
            note + 24);
        taken("at the TEXT's end", with(note + 24, 8, prog.textEnd()).put(note + 32, 8, 0));
        taken("inside another", with(note + 24, 8, prog.symbolOffset() + 1).put(note + 32, 8, 0));
        taken("at SHOFF", with(note + 24, 8, prog.headsOffset()).put(note + 32, 8, 0));
        refused("behind SHOFF", with(note + 24, 8, prog.headsOffset() + 1).put(note + 32, 8, 0), 3, note + 32);
    }

    private static void bytesOfTwo() {
        int note = head(prog.noteSection());
        int room = prog.fixOffset() - prog.textEnd();
        Due.is("bytes between the TEXT and the first fixes", room, 4);
        taken("all of them", with(note + 24, 8, prog.textEnd()).put(note + 32, 8, room));
        refused("one more", with(note + 24, 8, prog.textEnd()).put(note + 32, 8, room + 1), 3, note + 24);
        refused("one byte of the names", with(note + 24, 8, prog.nameOffset() + 7), 3, note + 24);
        refused("inside the names", with(note + 24, 8, prog.nameOffset() + 3).put(note + 32, 8, 1), 3, note + 24);
        refused("around the names", with(note + 24, 8, prog.nameOffset() - 1).put(note + 32, 8, 10), 3, note + 24);
        int fixes = head(prog.textFixSection());
        refused("the lesser number is not told", with(fixes + 24, 8, prog.symbolOffset()), 3,
            head(prog.symbolSection()) + 24);
    }

    private static void links() {
        int m = prog.sections();
        int symbols = head(prog.symbolSection());
        int fixes = head(prog.textFixSection());
        for (int k : new int[] {0, 1, 2, 3, 4, 5, 6, 7, 8, 9, m, m + 1, -1, Integer.MIN_VALUE, 1 << 16 | 8}) {
            if (k == prog.nameSection()) {
                taken("SYMBOLS' LINK", with(symbols + 40, 4, k));
            } else {
                refused("SYMBOLS' LINK " + k, with(symbols + 40, 4, k), 3, symbols + 40);
            }
            if (k == prog.symbolSection()) {
                taken("FIXES' LINK", with(fixes + 40, 4, k));
            } else {
                refused("FIXES' LINK " + k, with(fixes + 40, 4, k), 3, fixes + 40);
            }
            if (k == prog.textSection()) {
                taken("FIXES' INFO", with(fixes + 44, 4, k));
            } else if (k == 1 || k == 2) {
                refused("INFO of two", with(fixes + 44, 4, k), 3, head(prog.dataFixSection(k - 1)) + 44);
            } else {
                refused("FIXES' INFO " + k, with(fixes + 44, 4, k), 3, fixes + 44);
            }
        }
    }

    private static void names() {
        for (int k = 1; k < prog.sections(); k++) {
            if (k != prog.nameSection()) {
                refused("NAMES " + k, with(62, 2, k), 3, 62);
            }
            taken("a name's last place", with(head(k), 4, 7));
            for (int wrong : new int[] {8, 9, -1, Integer.MIN_VALUE}) {
                refused("a name's place " + wrong, with(head(k), 4, wrong), 3, head(k));
            }
        }
    }

    /** Fields of which the document says nothing may hold anything, and hold it in the new file too. */
    private static void freeFields() {
        for (int s = 1; s < prog.sections(); s++) {
            int type = (int) new Bytes(good).get(head(s) + 4, 4);
            boolean lies = s <= prog.textSection();
            if (!lies) {
                free("ADDRESS of " + s, head(s) + 16, 8);
            }
            if (type != 2 && type != 4) {
                free("LINK of " + s, head(s) + 40, 4);
                free("ENTSIZE of " + s, head(s) + 56, 8);
            }
            if (type != 4) {
                free("INFO of " + s, head(s) + 44, 4);
            }
            free("the field at 48 of " + s, head(s) + 48, 8);
        }
        for (int k = 1; k < prog.symbolCount(); k++) {
            int at = prog.symbolAt(k);
            boolean function = (new Bytes(good).get(at + 4, 1) & 15) == 2;
            free("the byte at 5 of symbol " + k, at + 5, 1);
            if (!function) {
                free("SIZE of symbol " + k, at + 16, 8);
            }
            for (int high = 0; high < 16; high++) {
                taken("high bits of KIND", with(at + 4, 1, high << 4 | (function ? 2 : 1)));
            }
        }
    }

    private static void free(String what, int at, int n) {
        for (long value : new long[] {1, 2, 3, 4, prog.symbolSection(), prog.nameSection(), -1, TOP, 255}) {
            Bytes file = with(at, n, value);
            CodeLayout x = Feeder.taken(what + " " + value, file.bytes, 2);
            Due.holds(what + ": same()", x.same());
            x.lay(4, 64);
            Due.is(what + ": check()", x.check(), 0);
            int shift = x.size() - file.bytes.length;
            for (int i = 0; i < n; i++) {
                Due.is(what + " in the new file", x.out(at + shift + i), file.get(at + i, 1));
            }
        }
    }

    /** The note made TEXTS of six bytes, beside those of eight: names of sections and of symbols are in one each. */
    private static Bytes withTwoTexts() {
        int note = prog.noteSection();
        int from = prog.nameOffset() + 8;
        return with(head(note) + 4, 4, 3).put(from, 1, 0).put(from + 5, 1, 0);
    }

    private static void twoTexts() {
        int note = prog.noteSection();
        int symbols = head(prog.symbolSection());
        int symbol = prog.symbolAt(1);
        int from = prog.nameOffset() + 8;
        taken("two TEXTS", withTwoTexts());
        refused("the first byte of the second", withTwoTexts().put(from, 1, 1), 3, from);
        refused("its last byte", withTwoTexts().put(from + 5, 1, 1), 3, from + 5);
        refused("of no byte", withTwoTexts().put(head(note) + 32, 8, 0), 3, head(note) + 32);
        refused("with FLAGS", withTwoTexts().put(head(note) + 8, 8, 2), 3, head(note) + 8);
        Bytes ofSymbols = withTwoTexts().put(symbols + 40, 4, note);
        taken("the names of symbols in it", ofSymbols);
        taken("its last place", new Bytes(ofSymbols.bytes).put(symbol, 4, 5));
        refused("behind it", new Bytes(ofSymbols.bytes).put(symbol, 4, 6), 4, symbol);
        taken("sections' names are in the other", new Bytes(ofSymbols.bytes).put(head(1), 4, 7));
        refused("behind that", new Bytes(ofSymbols.bytes).put(head(1), 4, 8), 3, head(1));
        Bytes ofSections = withTwoTexts().put(62, 2, note);
        taken("the names of sections in it", ofSections);
        taken("its last place", new Bytes(ofSections.bytes).put(head(1), 4, 5));
        refused("behind it", new Bytes(ofSections.bytes).put(head(1), 4, 6), 3, head(1));
        taken("symbols' names are in the other", new Bytes(ofSections.bytes).put(symbol, 4, 7));
        refused("behind that", new Bytes(ofSections.bytes).put(symbol, 4, 8), 4, symbol);
    }

    /** Each section in each place: what is asked of it is asked there too. */
    private static void anyOrder() {
        int m = prog.sections();
        for (int more = 1; more < m - 1; more++) {
            int[] to = new int[m];
            for (int s = 1; s < m; s++) {
                to[s] = 1 + (s - 1 + more) % (m - 1);
            }
            Bytes file = new Bytes(prog.reordered(to));
            Feeder.taken("sections in another order", file.bytes, 2);
            int note = head(to[prog.noteSection()]);
            int symbols = head(to[prog.symbolSection()]);
            int fixes = head(to[prog.textFixSection()]);
            int text = head(to[prog.textSection()]);
            refused("OFFSET", new Bytes(file.bytes).put(note + 24, 8, prog.textEnd() - 1), 3, note + 24);
            refused("SYMBOLS' LINK", new Bytes(file.bytes).put(symbols + 40, 4, 0), 3, symbols + 40);
            refused("FIXES' LINK", new Bytes(file.bytes).put(fixes + 40, 4, 0), 3, fixes + 40);
            refused("FIXES' INFO", new Bytes(file.bytes).put(fixes + 44, 4, 0), 3, fixes + 44);
            refused("TEXT", new Bytes(file.bytes).put(text + 16, 8, 0), 3, text + 16);
            refused("DATA", new Bytes(file.bytes).put(head(to[1]) + 16, 8, 0), 3, head(to[1]) + 16);
            refused("a name", new Bytes(file.bytes).put(head(to[1]), 4, 8), 3, head(to[1]));
            int ofData = head(to[prog.dataFixSection(0)]);
            refused("INFO of two", new Bytes(file.bytes).put(ofData + 44, 4, to[prog.textSection()]), 3,
                Math.max(ofData, fixes) + 44);
            int fix = prog.fixOffset();
            refused("a fix", new Bytes(file.bytes).put(fix + 8, 4, 1), 5, fix + 8);
            CodeLayout x = Feeder.taken("for a layout", file.bytes, 2);
            x.lay(4, 64);
            Due.is("check()", x.check(), 0);
            Due.is("run(2)", x.run(2, 50), 1);
        }
    }

    /** As many segments and sections as there may be, each section also in the last place. */
    private static void sixteenSections() {
        Prog p = new Prog();
        p.data(6, 16);
        p.data(4, 16);
        p.data(6, 16);
        p.function("f").dataAddress(1, 2, 8).put(Word.load(3, 4, 1, 0), Word.storePair(3, 4, 4, 31, -16));
        p.label("g").exit().b("g");
        p.pointer(2, 8, "g");
        p.emptyNotes = 5;
        Due.is("sections", p.sections(), 16);
        for (int more = 0; more < 15; more++) {
            int[] to = new int[16];
            for (int s = 1; s < 16; s++) {
                to[s] = 1 + (s - 1 + more) % 15;
            }
            byte[] file = p.reordered(to);
            CodeLayout x = Feeder.taken("sixteen sections", file, 1);
            Due.holds("same()", x.same());
            Due.holds("lay()", x.lay(4, 4096) > 0);
            Due.is("check()", x.check(), 0);
            for (int which = 0; which < 3; which++) {
                Due.is("run()", x.run(which, 9), 1);
                Due.is("the third segment", x.memory(which, p.dataAddress(2) + 8), (int) x.register(which, 4) & 255);
                Due.is("the stack", x.memory(which, 2147483648L - 16), (int) x.register(which, 4) & 255);
            }
            Due.is("kind(4)", x.kind(4), 1);
            Due.is("keeps()", x.keeps(2147483648L - 8), 1);
            Feeder.refused("seventeen", new Bytes(file).put(60, 2, 17).bytes, 1, 60);
            int last = p.sectionHead(15);
            Feeder.refused("the last one's name", new Bytes(file).put(last, 4, 8).bytes, 3, last);
            Feeder.refused("the last one's TYPE", new Bytes(file).put(last + 4, 4, 5).bytes, 3, last + 4);
        }
    }

    private static void symbolFields() {
        for (int k = 1; k < prog.symbolCount(); k++) {
            int at = prog.symbolAt(k);
            taken("a name's last place", with(at, 4, 7));
            refused("a name's place 8", with(at, 4, 8), 4, at);
            refused("a name's place -1", with(at, 4, -1), 4, at);
        }
        for (int i = 0; i < 24; i++) {
            refused("the first symbol", with(prog.symbolAt(0) + i, 1, 128), 4, prog.symbolAt(0));
        }
        int at = prog.symbolAt(1);
        for (int section : new int[] {0, 1, 2, 3, 65521}) {
            taken("SECTION " + section, with(at + 6, 2, section));
        }
        for (int section : new int[] {4, 5, 6, 7, 8, 9, 10, 11, 16, 65520, 65522, 65535}) {
            refused("SECTION " + section, with(at + 6, 2, section), 4, at + 6);
        }
    }

    private static void symbolValues() {
        int at = prog.symbolAt(1);
        long base = prog.textAddress();
        long end = base + 4 * prog.words.size();
        for (long value : new long[] {base - 4, base - 1, base + 1, base + 2, base + 3, end - 1, end + 1, end + 4, 0, -4,
            base | 1L << 32, base | TOP}) {
            refused("VALUE " + value, with(at + 8, 8, value), 4, at + 8);
            taken("VALUE of no section", with(at + 8, 8, value).put(at + 6, 2, 65521));
            taken("VALUE in DATA", with(at + 8, 8, value).put(at + 6, 2, 1));
        }
        for (long value : new long[] {base, base + 4, end - 4, end}) {
            taken("VALUE " + value, with(at + 8, 8, value));
        }
    }

    private static boolean isTextFix(int type) {
        for (int known : new int[] {275, 277, 278, 282, 283, 285, 286}) {
            if (type == known) {
                return true;
            }
        }
        return false;
    }

    private static void fixTypes() {
        int fix = prog.fixOffset();
        Prog p = sample();
        p.pointer(0, 0, "main");
        Bytes file = new Bytes(p.file());
        int ofData = p.dataFixOffset(0);
        for (int type = 1; type < 300; type++) {
            if (isTextFix(type)) {
                Due.holds("TYPE " + type + " of the TEXT", answer(with(fix + 8, 4, type)) != -5);
            } else {
                refused("TYPE " + type + " of the TEXT", with(fix + 8, 4, type), 5, fix + 8);
            }
            if (type != 257) {
                refused("TYPE " + type + " of DATA", new Bytes(file.bytes).put(ofData + 8, 4, type), 5, ofData + 8);
            }
        }
        for (int type : new int[] {-1, Integer.MIN_VALUE, Integer.MIN_VALUE | 275, 275 | 1 << 16, 257}) {
            refused("TYPE " + type + " of the TEXT", with(fix + 8, 4, type), 5, fix + 8);
        }
        refused("TYPE of DATA, its highest bit", new Bytes(file.bytes).put(ofData + 8, 4, 257 | 1 << 31), 5,
            ofData + 8);
    }

    private static void fixesThatSayNothing() {
        Prog p = sample();
        p.noFix().noFix().pointer(0, 0, "main");
        Bytes file = new Bytes(p.file());
        Feeder.taken("two of the same PLACE", file.bytes, 2);
        int none = p.dataFixOffset(0) - 24;
        for (long wrong : new long[] {1, 1L << 32, TOP, -1, p.textAddress()}) {
            refused("PLACE " + wrong, new Bytes(file.bytes).put(none, 8, wrong), 5, none);
            refused("ADDEND " + wrong, new Bytes(file.bytes).put(none + 16, 8, wrong), 5, none + 16);
        }
        for (int wrong : new int[] {1, -1, Integer.MIN_VALUE}) {
            refused("symbol " + wrong, new Bytes(file.bytes).put(none + 12, 4, wrong), 5, none + 12);
        }
        // Of DATA too.
        int ofData = p.dataFixOffset(0);
        Bytes nothing = new Bytes(file.bytes).put(ofData, 8, 0).put(ofData + 8, 8, 0).put(ofData + 16, 8, 0);
        Due.is("of DATA", Feeder.taken("of DATA", nothing.bytes, 2).count(4), 2);
        refused("PLACE in DATA", new Bytes(nothing.bytes).put(ofData, 8, p.dataAddress(0)), 5, ofData);
    }

    private static void fixPlaces() {
        int fix = prog.fixOffset();
        long base = prog.textAddress();
        long end = base + 4 * prog.words.size();
        for (long place : new long[] {base - 4, base - 1, base + 1, base + 2, base + 3, end - 1, end, end + 4, 0, -4,
            base | 1L << 32, base | TOP}) {
            refused("PLACE " + place, with(fix, 8, place), 5, fix);
        }
        Due.is("PLACE at the last word", answer(with(fix, 8, end - 4)), -9);
        Prog p = sample();
        p.pointer(0, 0, "main");
        Bytes file = new Bytes(p.file());
        int ofData = p.dataFixOffset(0);
        long data = p.dataAddress(0);
        for (long place : new long[] {data - 8, data - 1, data + 1, data + 2, data + 4, data + 7, data + 60, data + 64,
            data + 72, -8, data | 1L << 32, data | TOP}) {
            refused("PLACE " + place, new Bytes(file.bytes).put(ofData, 8, place), 5, ofData);
        }
        Bytes last = new Bytes(file.bytes).put(ofData, 8, data + 56).put(p.dataOffset(0) + 56, 8, base);
        Feeder.taken("PLACE at the last long", last.bytes, 2);
        refused("a long that the section has but in part", last.put(p.sectionHead(1) + 32, 8, 63), 5, ofData);
    }

    private static void placesToldTwice() {
        Prog p = new Prog();
        p.data(6, 8 * 140);
        p.function("f");
        for (int i = 0; i < 140; i++) {
            p.blFixed("f").pointer(0, 8 * i, "f");
        }
        p.put(Word.ret(30));
        Bytes file = new Bytes(p.file());
        CodeLayout x = Feeder.taken("each once", file.bytes, 1);
        Due.is("fixes", x.count(4), 280);
        for (int k : new int[] {1, 31, 32, 63, 64, 65, 127, 128, 139}) {
            for (int other : new int[] {0, k - 1, k / 2}) {
                int fix = p.fixOffset() + 24 * k;
                refused("of the TEXT", new Bytes(file.bytes).put(fix, 8, p.textAddress() + 4 * other), 5, fix);
                int ofData = p.dataFixOffset(0) + 24 * k;
                refused("of DATA", new Bytes(file.bytes).put(ofData, 8, p.dataAddress(0) + 8 * other), 5, ofData);
            }
        }
    }

    private static void fixSymbols() {
        int fix = prog.fixOffset();
        for (int symbol : new int[] {prog.symbolCount(), prog.symbolCount() + 1, -1, Integer.MIN_VALUE}) {
            refused("symbol " + symbol, with(fix + 12, 4, symbol), 5, fix + 12);
        }
        long target = prog.dataAddress(0) + 8;
        for (int symbol = 0; symbol < prog.symbolCount(); symbol++) {
            long value = new Bytes(good).get(prog.symbolAt(symbol) + 8, 8);
            taken("symbol " + symbol, with(fix + 12, 4, symbol).put(fix + 16, 8, target - value));
        }
    }

    /** Symbol and ADDEND wrap: TARGET may be below both. */
    private static void targetsThatWrap() {
        Prog p = sample();
        p.pointer(0, 0, "main");
        p.symbol(0, 65521, -16, 0);
        int huge = p.symbolCount() - 1;
        Bytes file = new Bytes(p.file());
        int ofData = p.dataFixOffset(0);
        long base = p.textAddress();
        file.put(ofData + 12, 4, huge).put(ofData + 16, 8, base + 16);
        CodeLayout x = Feeder.taken("a TARGET that wraps", file.bytes, 2);
        Due.is("is in the TEXT", x.block(0, 6), 1);
        Due.holds("same()", x.same());
        x.edge(x.block(1, 0) + 4 * x.block(1, 1) - 4, x.block(1, 0), 1);
        x.lay(4, 4);
        Due.holds("it moves", x.moved(base) != base);
        int shift = x.size() - file.bytes.length;
        Due.is("its new ADDEND", longOut(x, ofData + shift + 16), x.moved(base) + 16);
        Due.is("check()", x.check(), 0);
        refused("one less is no multiple of 4", new Bytes(file.bytes).put(ofData + 16, 8, base + 17)
            .put(p.dataOffset(0), 8, base + 1), 9, ofData);
    }

    private static long longOut(CodeLayout x, int at) {
        long value = 0;
        for (int i = 0; i < 8; i++) {
            value |= (long) x.out(at + i) << 8 * i;
        }
        return value;
    }

    private static void entries() {
        long base = prog.textAddress();
        long end = base + 4 * prog.words.size();
        for (long entry : new long[] {base - 4, base + 1, base + 2, base + 3, end - 3, end - 1, end, end + 4, 0, -4,
            base | 1L << 32, base | TOP}) {
            refused("ENTRY " + entry, with(24, 8, entry), 6, 24);
        }
        for (long entry = base; entry < end; entry += 4) {
            taken("ENTRY " + entry, with(24, 8, entry));
        }
    }
}
