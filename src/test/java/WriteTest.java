/** Promises 12 to 20 and 32 on programs small enough to say each word. */
public final class WriteTest {
    public static void main(String[] args) {
        turnedOver();
        leftOut();
        aloneStays();
        putBehind();
        nothingHot();
        allCold();
        longWords();
        reach();
        longAtOnce();
        firstLeftOut();
        fixedWords();
        fixesThatMove();
        addendsOfMovedSymbols();
        fixesBesideOneLeftOut();
        symbolsThatMove();
        shrinks();
        clusters();
        ties();
        Due.end("WriteTest");
    }

    private static long last(CodeLayout x, int b) {
        return x.block(b, 0) + 4 * x.block(b, 1) - 4;
    }

    private static void edge(CodeLayout x, int u, int v, int count) {
        Due.is("edge(" + u + ", " + v + ")", x.edge(last(x, u), x.block(v, 0), count), 0);
    }

    private static void row(CodeLayout x, int... due) {
        for (int k = 0; k < due.length; k++) {
            Due.is("order(" + k + ")", x.order(k), due[k]);
        }
        Due.is("order() beyond", x.order(due.length), -1);
    }

    private static void laid(CodeLayout x, int... due) {
        for (int what = 0; what < 5; what++) {
            Due.is("laid(" + what + ")", x.laid(what), due[what]);
        }
        Due.is("strays()", x.strays(), 0);
        Due.is("check()", x.check(), 0);
        Due.holds("same()", x.same());
    }

    private static long out(CodeLayout x, int at, int n) {
        long value = 0;
        for (int i = 0; i < n; i++) {
            value |= (long) x.out(at + i) << 8 * i;
        }
        return value;
    }

    private static void words(CodeLayout x, Prog p, int... due) {
        for (int i = 0; i < due.length; i++) {
            Due.is("word " + i, (int) out(x, p.textOffset() + 4 * i, 4), due[i]);
        }
    }

    private static Prog diamond() {
        Prog p = new Prog();
        p.function("f").cbz(1, "c").put(Word.NOP).b("d").label("c").put(Word.NOP).label("d").put(Word.ret(30));
        return p;
    }

    private static void turnedOver() {
        Prog p = diamond();
        CodeLayout x = Feeder.read(p.file(), 1);
        edge(x, 0, 1, 1);
        edge(x, 0, 2, 9);
        edge(x, 1, 3, 1);
        edge(x, 2, 3, 9);
        Due.is("lay()", x.lay(4, 2097152), 20);
        row(x, 0, 2, 3, 1);
        laid(x, 4, 0, 0, 1, 0);
        Due.is("weight by number", x.weight(0, 0), 10);
        Due.is("weight as laid", x.weight(0, 1), 18);
        words(x, p, 0xB5000061, Word.NOP, Word.ret(30), Word.NOP, Prog.B | -2 & 0x3FFFFFF);
        long a = p.textAddress();
        Due.is("moved", x.moved(a + 4), a + 12);
        Due.is("moved", x.moved(a + 8), a + 16);
        Due.is("moved", x.moved(a + 12), a + 4);
        Due.is("size()", x.size(), p.file().length);
    }

    private static void leftOut() {
        Prog p = diamond();
        CodeLayout x = Feeder.read(p.file(), 1);
        edge(x, 0, 1, 9);
        edge(x, 1, 3, 9);
        Due.is("lay()", x.lay(4, 4), 20);
        row(x, 0, 1, 3, 2);
        laid(x, 3, 0, 1, 0, 1);
        words(x, p, 0xB4000061, Word.NOP, Word.ret(30), Word.NOP, Prog.B | -2 & 0x3FFFFFF);
        long a = p.textAddress();
        Due.is("where the END would stand", x.moved(a + 8), a + 8);
        Due.is("weight by number", x.weight(0, 0), 9);
        Due.is("weight as laid", x.weight(0, 1), 18);
    }

    private static void aloneStays() {
        Prog p = new Prog();
        p.function("f").cbz(1, "c").b("d").label("c").put(Word.NOP).b("d").label("d").put(Word.ret(30));
        CodeLayout x = Feeder.read(p.file(), 1);
        edge(x, 0, 1, 9);
        edge(x, 1, 3, 9);
        x.lay(4, 4);
        row(x, 0, 1, 3, 2);
        laid(x, 3, 0, 0, 0, 0);
        words(x, p, 0xB4000061, Prog.B | 1, Word.ret(30), Word.NOP, Prog.B | -2 & 0x3FFFFFF);
        Due.is("a B alone does not fall", x.weight(0, 1), 9);
        CodeLayout y = Feeder.read(p.file(), 1);
        edge(y, 0, 2, 9);
        edge(y, 2, 3, 9);
        y.lay(4, 4);
        row(y, 0, 2, 3, 1);
        laid(y, 3, 0, 0, 1, 0);
        words(y, p, 0xB5000081, Word.NOP, Prog.B | 1, Word.ret(30), Prog.B | -1 & 0x3FFFFFF);
        Due.is("a B to the next block does not fall", y.weight(0, 1), 9);
    }

    private static void putBehind() {
        Prog p = new Prog();
        p.function("f").put(Word.NOP).bl("g").put(Word.blr(3)).label("c").put(Word.NOP).label("d").bcond(2, "c");
        p.put(Word.ret(30));
        p.function("g").put(Word.ret(30));
        p.data(6, 8);
        p.pointer(0, 0, "d");
        CodeLayout x = Feeder.read(p.file(), 2);
        // f: 0 BL, 1 BLR, 2 none, 3 B.cond, 4 RET; g: 5
        edge(x, 0, 5, 1);
        edge(x, 3, 4, 5);
        Due.is("lay()", x.lay(4096, 4), 7 * 4 + 2 * 4);
        row(x, 0, 3, 4, 5, 1, 2);
        laid(x, 4, 0, 0, 0, 2);
        words(x, p, Word.NOP, Prog.BL | 4, Prog.B | 4, 0x54000002 | 4 << 5, Word.ret(30), Word.ret(30), Word.blr(3),
            Word.NOP, Prog.B | -5 & 0x3FFFFFF);
    }

    private static void nothingHot() {
        Prog p = diamond();
        CodeLayout x = Feeder.read(p.file(), 1);
        long a = p.textAddress();
        long start = (a + 1023) / 1024 * 1024;
        Due.is("lay()", x.lay(4, 1024), start - a + 20);
        row(x, 0, 1, 2, 3);
        laid(x, 0, 0, 0, 0, 0);
        Due.is("moved", x.moved(a), start);
        Due.is("weight(0, 1)", x.weight(0, 1), 0);
        for (int i = 0; i < start - a; i += 7) {
            Due.is("a byte between", x.out(p.textOffset() + i), 0);
        }
        Due.is("the first word", out(x, p.textOffset() + (int) (start - a), 4), 0xB4000061L);
        Due.is("ENTRY", out(x, 24, 8), start);
        Due.is("the function's SIZE", out(x, x.size() - p.file().length + p.symbolAt(2) + 16, 8), 20);
        CodeLayout y = Feeder.read(p.file(), 1);
        Due.is("without a gap", y.lay(4, 4), 20);
        Due.holds("the old file's bytes", java.util.Arrays.equals(Feeder.written(y), p.file()));
    }

    private static void allCold() {
        Prog p = diamond();
        CodeLayout x = Feeder.read(p.file(), 1);
        edge(x, 1, 3, 1);
        long a = p.textAddress();
        long start = (a + 8 + 65535) / 65536 * 65536;
        Due.is("lay()", x.lay(65536, 65536), start - a + 3 * 4);
        row(x, 1, 3, 0, 2);
        laid(x, 2, 0, 1, 1, 1);
        Due.is("a cold first block", x.moved(a), start);
        words(x, p, Word.NOP, Word.ret(30), 0);
        int at = p.textOffset() + (int) (start - a);
        long back = (a - (start)) / 4;
        Due.is("turned over, to NEXT", (int) out(x, at, 4), 0xB5000001 | (int) (back & 0x7FFFF) << 5);
        Due.is("c", (int) out(x, at + 4, 4), Word.NOP);
        Due.is("B to d", (int) out(x, at + 8, 4), Prog.B | (int) ((a + 4 - start - 8) / 4 & 0x3FFFFFF));
        int shift = x.size() - p.file().length;
        Due.is("SIZE of what is where the first block is", out(x, shift + p.symbolAt(2) + 16, 8), 12);
        Due.is("VALUE", out(x, shift + p.symbolAt(2) + 8, 8), start);
        Due.is("D is a multiple of 16", shift & 15, 0);
        for (int i = at + 12; i < p.textEnd() + shift; i++) {
            Due.is("a byte behind the new TEXT", x.out(i), 0);
        }
        Due.holds("there are some", at + 12 < p.textEnd() + shift);
        Due.holds("and the least", shift >= x.lay(65536, 65536) - 20 && shift < x.lay(65536, 65536) - 20 + 16);
    }

    private static void longWords() {
        Prog p = new Prog();
        p.function("f").tbz(1, 40, "c").put(Word.NOP).bcond(Word.GE, "c").put(Word.ret(30)).label("c");
        p.put(Word.ret(29));
        long a = p.textAddress();
        CodeLayout x = Feeder.read(p.file(), 1);
        // 0 TBZ, 1 B.cond, 2 RET, 3 c
        edge(x, 0, 1, 1);
        long start = (a + 20 + 65535) / 65536 * 65536;
        Due.is("lay()", x.lay(64, 65536), start - a + 8);
        row(x, 0, 1, 2, 3);
        laid(x, 2, 1, 0, 0, 1);
        int far = (int) ((start + 4 - a - 4) / 4);
        words(x, p, 0xB7400041, Prog.B | far, Word.NOP, 0x5400000A | (far - 2) << 5, Prog.B | far - 4);
        Due.is("the END's new address", x.moved(a), a);
        Due.is("the next word's", x.moved(a + 4), a + 8);
        long further = (a + 24 + 2097151) / 2097152 * 2097152;
        Due.is("lay()", x.lay(64, 2097152), further - a + 8);
        laid(x, 2, 2, 0, 0, 1);
        far = (int) ((further + 4 - a - 4) / 4);
        words(x, p, 0xB7400041, Prog.B | far, Word.NOP, 0x5400004B, Prog.B | far - 3, Prog.B | far - 5);
        turnedAndLong();
    }

    /** Each distance around the farthest that a word can tell, forwards and backwards. */
    private static void reach() {
        for (int fill = 1; fill < 120; fill++) {
            forwards(fill, true);
            forwards(fill, false);
            backwards(fill, true);
            backwards(fill, false);
        }
    }

    private static Prog conditional(Prog p, boolean tbz, String label) {
        return tbz ? p.tbz(1, 5, label) : p.cbz(1, label);
    }

    private static Prog fill(Prog p, int words) {
        for (int i = 0; i < words; i++) {
            p.put(Word.NOP);
        }
        return p;
    }

    /** Hot: two words and the END, RET. Cold: some words with B, then what the END goes to. */
    private static void forwards(int words, boolean tbz) {
        Prog p = new Prog();
        p.higher = 1048576 - 65536;
        p.function("f").put(Word.NOP, Word.NOP);
        conditional(p, tbz, "c").put(Word.ret(30));
        fill(p, words).b("c").label("c").put(Word.ret(30));
        CodeLayout x = Feeder.read(p.file(), 1);
        edge(x, 0, 1, 1);
        int apart = tbz ? 32768 : 1048576;
        x.lay(64, apart);
        long a = p.textAddress();
        long start = (a + 16 + apart - 1) / apart * apart;
        long shortWay = (start + 4 * words + 4 - (a + 8)) / 4;
        long limit = tbz ? 8192 : 262144;
        Due.is("long forwards by " + shortWay, x.laid(1), shortWay >= limit ? 1 : 0);
        Due.is("strays()", x.strays(), 0);
    }

    /** Hot: some words with RET. Cold: words, then an END that goes back to the hot ones. */
    private static void backwards(int words, boolean tbz) {
        Prog p = new Prog();
        p.higher = 1048576 - 65536;
        p.function("f").cbz(2, "h");
        fill(p, words);
        conditional(p, tbz, "h").put(Word.ret(30)).label("h").put(Word.ret(30));
        CodeLayout x = Feeder.read(p.file(), 1);
        edge(x, 0, 3, 1);
        int apart = tbz ? 32768 : 1048576;
        x.lay(64, apart);
        long a = p.textAddress();
        long start = (a + 8 + apart - 1) / apart * apart;
        long way = (a + 4 - (start + 4 * words)) / 4;
        long limit = tbz ? 8192 : 262144;
        Due.is("long backwards by " + way, x.laid(1), way < -limit ? 1 : 0);
        Due.is("strays()", x.strays(), 0);
    }

    /** Hot: ENDs that go to the same cold block. The cold row stays where it is while the hot one grows. */
    private static void longAtOnce() {
        for (int words = 25; words < 40; words++) {
            Prog p = new Prog();
            p.higher = 1048576 - 65536;
            p.function("f");
            for (int k = 0; k < 6; k++) {
                p.tbz(1, k, "c");
            }
            p.put(Word.ret(30));
            fill(p, words).b("c").label("c").put(Word.ret(30));
            CodeLayout x = Feeder.read(p.file(), 1);
            for (int k = 0; k < 6; k++) {
                edge(x, k, k + 1, 1);
            }
            x.lay(64, 32768);
            // All that did not reach while all were short, also if they would reach with those before them long.
            long first = (1048576 + 32768 - p.textAddress()) / 4 + words + 1;
            int due = 0;
            for (int k = 0; k < 6; k++) {
                due += first - k >= 8192 ? 1 : 0;
            }
            Due.is("made long, the first by " + first, x.laid(1), due);
            Due.is("strays()", x.strays(), 0);
        }
    }

    /** A fix at the END of the first block, which is left out. */
    private static void firstLeftOut() {
        Prog p = new Prog();
        p.function("f").put(Word.NOP).bFixed("d").put(Word.NOP).label("d").put(Word.ret(30));
        CodeLayout x = Feeder.read(p.file(), 1);
        edge(x, 0, 2, 1);
        x.lay(4, 4);
        row(x, 0, 2, 1);
        laid(x, 2, 0, 1, 0, 1);
        int fix = p.fixOffset() + x.size() - p.file().length;
        Due.is("its fix", out(x, fix, 8) | out(x, fix + 8, 8) | out(x, fix + 16, 8), 0);
    }

    /** TAKEN is right behind, NEXT far away: turned over for that, and again for being long. */
    private static void turnedAndLong() {
        Prog p = new Prog();
        p.function("f").tbz(1, 3, "c").put(Word.NOP).put(Word.ret(30)).label("c").put(Word.ret(29));
        long a = p.textAddress();
        CodeLayout x = Feeder.read(p.file(), 1);
        edge(x, 0, 2, 1);
        long start = (a + 12 + 65535) / 65536 * 65536;
        Due.is("lay()", x.lay(64, 65536), start - a + 8);
        row(x, 0, 2, 1);
        laid(x, 2, 1, 0, 1, 0);
        words(x, p, 0x36180041, Prog.B | (int) ((start - a - 4) / 4), Word.ret(29));
    }

    /** ADRP and ADD of what moves, and of what does not. */
    private static void fixedWords() {
        Prog p = new Prog();
        p.data(6, 32);
        p.function("f").codeAddress(3, "cold").dataAddress(4, 0, 16).dataPage(5, 0, 8);
        p.dataLow(Word.load(3, 6, 5, 0), 286, 0, 8);
        p.cbz(1, "cold").put(Word.ret(30)).label("cold").dataAddress(7, 0, 24).put(Word.br(3));
        p.pointer(0, 0, "cold").pointerToData(0, 8, 0, 24);
        CodeLayout x = Feeder.read(p.file(), 1);
        edge(x, 0, 1, 1);
        long a = p.textAddress();
        x.lay(64, 65536);
        long cold = (a + 32 + 65535) / 65536 * 65536;
        Due.is("cold", x.moved(p.address("cold")), cold);
        long pages = (cold >> 12) - (a >> 12);
        words(x, p, 0x90000003 | (int) (pages & 3) << 29 | (int) (pages >> 2) << 5,
            Word.addNumber(3, 3, (int) (cold & 0xFFF)));
        Due.is("the long of the fix", out(x, p.dataOffset(0), 8), cold);
        Due.is("a long to data", out(x, p.dataOffset(0) + 8, 8), p.dataAddress(0) + 24);
        int at = p.textOffset() + (int) (cold - a);
        long back = (p.dataAddress(0) + 24 >> 12) - (cold >> 12);
        Due.is("ADRP made anew", (int) out(x, at, 4),
            0x90000007 | (int) (back & 3) << 29 | (int) (back >> 2 & 0x7FFFF) << 5);
        Due.is("ADD as it was", (int) out(x, at + 4, 4), Word.addNumber(7, 7,
            (int) (p.dataAddress(0) + 24 & 0xFFF)));
        for (int which = 0; which < 3; which++) {
            x.run(which, 100);
        }
        Due.is("run 2 makes what run 1 says", x.register(2, 3), x.newer(3));
    }

    /** The END is left out; the fixes of the other words in its block stay. */
    private static void fixesBesideOneLeftOut() {
        Prog p = new Prog();
        p.data(6, 32);
        p.function("f").cbz(1, "c").dataAddress(2, 0, 8).bFixed("d").label("c").put(Word.NOP).label("d");
        p.put(Word.ret(30));
        CodeLayout x = Feeder.read(p.file(), 1);
        edge(x, 0, 1, 9);
        edge(x, 1, 3, 9);
        x.lay(64, 64);
        row(x, 0, 1, 3, 2);
        laid(x, 3, 0, 1, 0, 1);
        int fix = p.fixOffset() + x.size() - p.file().length;
        long a = p.textAddress();
        int[] types = {275, 277};
        for (int k = 0; k < 2; k++) {
            Due.is("PLACE", out(x, fix, 8), x.moved(a + 4 + 4 * k));
            Due.is("TYPE", out(x, fix + 8, 4), types[k]);
            Due.is("symbol", out(x, fix + 12, 4), 2);
            Due.is("ADDEND", out(x, fix + 16, 8), 8);
            fix += 24;
        }
        Due.is("that of the END", out(x, fix, 8) | out(x, fix + 8, 8) | out(x, fix + 16, 8), 0);
        Due.is("check()", x.check(), 0);
    }

    /** Each fix keeps its symbol: where that moves, its TARGET does not, or both do, ADDEND makes up for it. */
    private static void addendsOfMovedSymbols() {
        Prog p = new Prog();
        p.data(6, 32);
        p.function("f").dataAddress(1, 0, 4).cbz(1, "hot").put(Word.NOP).label("hot").codeAddress(2, "f");
        p.put(Word.ret(30)).pointerToData(0, 8, 0, 20).pointer(0, 16, "hot").pointer(0, 24, "f");
        Bytes file = new Bytes(p.file());
        long text = p.textAddress();
        long data = p.dataAddress(0);
        int first = p.fixOffset();
        // Symbol 1 is the TEXT's first word. By it 4 and 20 bytes behind the data's first one are told too.
        file.put(first + 12, 4, 1).put(first + 16, 8, data + 4 - text);
        int toData = p.dataFixOffset(0);
        file.put(toData + 12, 4, 1).put(toData + 16, 8, data + 20 - text);
        CodeLayout x = Feeder.read(file.bytes, 1);
        edge(x, 1, 2, 9);
        x.lay(64, 64);
        row(x, 1, 2, 0);
        long symbol = x.moved(text);
        Due.holds("the symbol moves", symbol > text);
        int shift = x.size() - file.bytes.length;
        Due.is("its VALUE", out(x, p.symbolAt(1) + shift + 8, 8), symbol);
        long[] targets = {data + 4, data + 4, symbol, symbol, data + 20, x.moved(p.address("hot")), symbol};
        int[] symbols = {1, 2, 1, 1, 1, 1, 1};
        for (int k = 0; k < targets.length; k++) {
            int fix = first + shift + 24 * k;
            Due.is("the symbol of fix " + k, out(x, fix + 12, 4), symbols[k]);
            long value = symbols[k] == 1 ? symbol : data;
            Due.is("ADDEND of fix " + k, out(x, fix + 16, 8), targets[k] - value);
        }
        Due.is("a long to data stays", out(x, p.dataOffset(0) + 8, 8), data + 20);
        Due.is("a long to the TEXT moves", out(x, p.dataOffset(0) + 24, 8), symbol);
        Due.is("check()", x.check(), 0);
    }

    /** PLACE and ADDEND of fixes, one whose END is left out, one whose symbol is no symbol of the TEXT. */
    private static void fixesThatMove() {
        Prog p = new Prog();
        p.data(6, 32);
        p.function("f").cbz(1, "c").put(Word.NOP).bFixed("d").label("c").blFixed("g").label("d").codePage(2, "c");
        p.put(Word.ret(30));
        p.function("g").put(Word.ret(30));
        p.pointer(0, 8, "c").pointerToData(0, 16, 0, 4).noFix();
        Bytes file = new Bytes(p.file());
        long a = p.textAddress();
        // The pointer's TARGET by symbol 0, which is at 0.
        file.put(p.dataFixOffset(0) + 12, 4, 0).put(p.dataFixOffset(0) + 16, 8, a + 12);
        CodeLayout x = Feeder.read(file.bytes, 2);
        edge(x, 0, 1, 9);
        edge(x, 1, 4 - 1, 9);
        x.lay(64, 4);
        row(x, 0, 1, 3, 2, 4);
        laid(x, 3, 0, 1, 0, 1);
        int shift = x.size() - file.bytes.length;
        int fix = p.fixOffset() + shift;
        Due.is("the END left out: all 0", out(x, fix, 8) | out(x, fix + 8, 8) | out(x, fix + 16, 8), 0);
        fix += 24;
        Due.is("283: PLACE", out(x, fix, 8), x.moved(a + 12));
        Due.is("283: TYPE", out(x, fix + 8, 4), 283);
        Due.is("283: symbol", out(x, fix + 12, 4), 1);
        long symbol = out(x, p.symbolAt(1) + shift + 8, 8);
        Due.is("the TEXT's symbol", symbol, x.moved(a));
        Due.is("283: TARGET", symbol + out(x, fix + 16, 8), x.moved(p.address("g")));
        fix += 24;
        Due.is("275: PLACE", out(x, fix, 8), x.moved(a + 16));
        Due.is("275: TARGET", symbol + out(x, fix + 16, 8), x.moved(p.address("c")));
        fix += 24;
        Due.is("TYPE 0", out(x, fix, 8) | out(x, fix + 8, 8) | out(x, fix + 16, 8), 0);
        fix += 24;
        Due.is("257: PLACE", out(x, fix, 8), p.dataAddress(0) + 8);
        Due.is("257: by symbol 0", out(x, fix + 16, 8), x.moved(p.address("c")));
        Due.is("257: the long", out(x, p.dataOffset(0) + 8, 8), x.moved(p.address("c")));
        fix += 24;
        Due.is("257 to data: ADDEND", out(x, fix + 16, 8), 4);
        Due.is("SHOFF", out(x, 40, 8), p.headsOffset() + shift);
        Due.is("a section before the TEXT", out(x, p.sectionHead(1) + shift + 24, 8), p.dataOffset(0));
        Due.is("the TEXT's OFFSET", out(x, p.sectionHead(2) + shift + 24, 8), p.textOffset());
        Due.is("the FIXES' OFFSET", out(x, p.sectionHead(3) + shift + 24, 8), p.fixOffset() + shift);
        Due.is("the names' OFFSET", out(x, p.sectionHead(p.nameSection()) + shift + 24, 8), p.nameOffset() + shift);
    }

    private static void symbolsThatMove() {
        Prog p = diamond();
        long a = p.textAddress();
        p.symbol(0, 1, a + 20, 7).symbol(1, 1, a + 8, 3).symbol(0, 65521, a + 8, 3).symbol(2, 0, a + 4, 3);
        CodeLayout x = Feeder.read(p.file(), 1);
        edge(x, 0, 2, 9);
        long bytes = x.lay(64, 64);
        int shift = x.size() - p.file().length;
        long[] due = {a + bytes, x.moved(a + 8), a + 8, a + 4};
        for (int k = 0; k < 4; k++) {
            Due.is("VALUE", out(x, p.symbolAt(3 + k) + shift + 8, 8), due[k]);
            Due.is("SIZE", out(x, p.symbolAt(3 + k) + shift + 16, 8), k == 0 ? 7 : 3);
        }
    }

    private static void shrinks() {
        Prog p = new Prog();
        p.noteBytes = 9;
        p.function("f");
        for (int i = 0; i < 8; i++) {
            // Each pair is written the other way round, its first END falls away.
            p.cbz(1, "y" + i).label("x" + i).put(Word.NOP).b("z" + i).label("y" + i).put(Word.NOP).b("x" + i);
            p.label("z" + i);
        }
        p.put(Word.ret(30));
        CodeLayout x = Feeder.read(p.file(), 1);
        for (int i = 0; i < 8; i++) {
            edge(x, 3 * i, 3 * i + 2, 9);
            edge(x, 3 * i + 2, 3 * i + 1, 9);
            edge(x, 3 * i + 1, 3 * i + 3, 9);
        }
        Due.is("lay()", x.lay(64, 4), 4 * (41 - 16));
        laid(x, 25, 0, 16, 8, 0);
        Due.is("D below 0", x.size(), p.file().length - 64);
        byte[] file = Feeder.written(x);
        CodeLayout y = Feeder.read(file, 1);
        Due.is("its words", y.count(2), 100);
        Due.is("a note's byte", x.out(p.nameOffset() - 64 + 8 + 8), 9);
        Due.holds("same() of the new file", y.same());
    }

    private static Prog functions(int... nops) {
        Prog p = new Prog();
        for (int f = 0; f < nops.length; f++) {
            p.function("f" + f);
            for (int i = 0; i < nops[f]; i++) {
                p.put(Word.NOP);
            }
            p.put(Word.blr(1), Word.ret(30));
        }
        return p;
    }

    /** Block 2 f calls, block 2 f + 1 returns. */
    private static void call(CodeLayout x, int f, int g, int count) {
        edge(x, 2 * f, 2 * g, count);
    }

    private static void clusters() {
        CodeLayout x = Feeder.read(functions(1, 1, 1, 1).file(), 4);
        call(x, 3, 1, 10);
        call(x, 0, 2, 8);
        call(x, 2, 0, 3);
        x.lay(4096, 4);
        // 1 behind 3, 2 behind 0, then 0's caller is in its cluster: 3 1 has 10 of 16, 0 2 has 11 of 16.
        row(x, 0, 4, 6, 2, 1, 3, 5, 7);
        x.lay(15, 4);
        // No two go together: by heat over size 1 (10), 2 (8), 0 (3), 3 (0).
        row(x, 2, 4, 0, 6, 1, 3, 5, 7);
        x.lay(16, 4);
        row(x, 0, 4, 6, 2, 1, 3, 5, 7);
        CodeLayout y = Feeder.read(functions(9, 1, 0).file(), 3);
        call(y, 0, 1, 10);
        call(y, 1, 2, 6);
        // Sizes 40, 8, 4.
        y.lay(4, 4);
        row(y, 4, 2, 0, 1, 3, 5);
        y.lay(12, 4);
        // 2 behind 1: 16 over 12; 0 stays alone.
        row(y, 2, 4, 0, 1, 3, 5);
        y.lay(48, 4);
        // First 1 behind 0, then 2 is too much for them: 6 over 4, then 10 over 48.
        row(y, 4, 0, 2, 1, 3, 5);
        y.lay(52, 4);
        row(y, 0, 2, 4, 1, 3, 5);
        CodeLayout z = Feeder.read(functions(1, 1, 1).file(), 3);
        call(z, 0, 2, 5);
        call(z, 1, 2, 5);
        call(z, 2, 2, 50);
        z.lay(4096, 4);
        // Of equal callers the least; its own calls make no caller.
        row(z, 0, 4, 2, 1, 3, 5);
    }

    private static void ties() {
        Prog p = new Prog();
        p.function("f").cbz(1, "c").cbz(2, "d").cbz(3, "e").label("c").put(Word.NOP).label("d").put(Word.NOP);
        p.label("e").put(Word.ret(30));
        CodeLayout x = Feeder.read(p.file(), 1);
        // Equal counts: the lesser u first, then the lesser v.
        edge(x, 0, 3, 4);
        edge(x, 0, 1, 4);
        edge(x, 1, 4, 4);
        edge(x, 4, 5, 4);
        edge(x, 3, 4, 4);
        x.lay(4, 4);
        // The chain 0 1 4 5 and 3 weigh 12, and so do the hot ones by number.
        row(x, 0, 1, 3, 4, 5, 2);
        Due.is("weight as laid", x.weight(0, 1), 12);
        edge(x, 0, 1, 1);
        edge(x, 1, 4, 1);
        x.lay(4, 4);
        row(x, 0, 1, 4, 5, 3, 2);
        Due.is("weight as laid", x.weight(0, 1), 14);
        CodeLayout y = Feeder.read(p.file(), 1);
        edge(y, 0, 1, 4);
        edge(y, 1, 4, 4);
        edge(y, 3, 4, 5);
        edge(y, 4, 5, 1);
        y.lay(4, 4);
        row(y, 0, 1, 3, 4, 5, 2);
        Due.is("weight as laid", y.weight(0, 1), 10);
    }
}
