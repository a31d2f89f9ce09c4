/** Terms 2 and 7: the edges of rules 7 to 12, of what is an instruction, and of what is a block. */
public final class TakeApartEdgesTest {
    private static Prog prog;
    private static byte[] good;

    public static void main(String[] args) {
        prog = sample();
        good = prog.file();
        Feeder.taken("the sample", good, 3);
        functionSizes();
        functionsInAnyOrder();
        moreFunctions();
        wholeText();
        firstBrokenWord();
        amounts();
        movesBySixteen();
        twos();
        conditions();
        widths();
        pairs();
        callsAndNothing();
        longsOfFixes();
        pagesOfFixes();
        farPages();
        numbersOfFixes();
        goingsOfFixes();
        targetsInTheText();
        targetsAtTheEnd();
        adrpWithoutFix();
        goingsIntoTheFunction();
        goingsOfBAndBl();
        lastWords();
        leadersAtTheEdges();
        leadersOfFixes();
        namedAtTheEdges();
        eachEnd();
        Due.end("TakeApartEdgesTest");
    }

    /** Three functions of three words: 0 to 2, 3 to 5, 6 to 8. */
    private static Prog sample() {
        Prog p = new Prog();
        p.data(6, 32);
        p.function("a").put(Word.NOP, Word.NOP, Word.ret(30));
        p.function("b").put(Word.NOP, Word.NOP, Word.ret(30));
        p.function("c").put(Word.NOP, Word.NOP, Word.ret(30));
        return p;
    }

    private static Bytes with(int at, int n, long value) {
        return new Bytes(good).put(at, n, value);
    }

    private static int word(int i) {
        return prog.textOffset() + 4 * i;
    }

    private static void refused(String what, Bytes file, int rule, int at) {
        Feeder.refused(what, file.bytes, rule, at);
    }

    private static CodeLayout taken(String what, Bytes file) {
        return Feeder.taken(what, file.bytes, 3);
    }

    private static void functionSizes() {
        int text = prog.textOffset();
        for (int f = 0; f < 3; f++) {
            int symbol = prog.symbolAt(prog.functionSymbol(f));
            for (long size : new long[] {0, 1, 2, 3, 4, 8, 9, 10, 11, 13, 14, 15, 16, 24, 36, -4, -12, Long.MIN_VALUE,
                1L << 32 | 12, 1L << 34 | 12, Long.MIN_VALUE | 12}) {
                refused("SIZE " + size + " of function " + f, with(symbol + 16, 8, size), 7, text);
            }
            taken("SIZE 12", with(symbol + 16, 8, 12));
        }
    }

    /** Functions are numbered by VALUE, not as their symbols stand. */
    private static void functionsInAnyOrder() {
        int[][] orders = {{0, 1, 2}, {2, 1, 0}, {1, 2, 0}, {2, 0, 1}, {0, 2, 1}, {1, 0, 2}};
        long base = prog.textAddress();
        for (int[] order : orders) {
            Bytes file = new Bytes(good);
            for (int k = 0; k < 3; k++) {
                file.put(prog.symbolAt(prog.functionSymbol(k)) + 8, 8, base + 12 * order[k]);
            }
            CodeLayout x = taken("symbols in another order", file);
            for (int f = 0; f < 3; f++) {
                Due.is("function's address", x.function(f, 0), base + 12 * f);
                Due.is("function's first block", x.function(f, 2), f);
            }
            x.edge(x.block(2, 0) + 8, x.block(2, 0), 1);
            x.lay(4, 16);
            int shift = x.size() - file.bytes.length;
            for (int k = 0; k < 3; k++) {
                long value = 0;
                for (int i = 0; i < 8; i++) {
                    value |= (long) x.out(prog.symbolAt(prog.functionSymbol(k)) + shift + 8 + i) << 8 * i;
                }
                Due.is("VALUE", value, x.moved(base + 12 * order[k]));
            }
        }
    }

    private static void more(String what, int kind, int section, long value, long size, boolean fits) {
        Prog p = sample();
        p.symbol(kind, section, value, size);
        if (fits) {
            Feeder.taken(what, p.file(), 3);
        } else {
            Feeder.refused(what, p.file(), 7, p.textOffset());
        }
    }

    private static void moreFunctions() {
        Prog p = sample();
        p.symbol(0, 0, 0, 0);
        long base = p.textAddress();
        int text = p.textSection();
        more("one of SIZE 0 inside another", 2, text, base + 4, 0, false);
        more("one of SIZE 0 where another begins", 2, text, base + 12, 0, false);
        more("one of SIZE 0 at the end", 2, text, base + 36, 0, false);
        more("one of SIZE 4 at the end", 2, text, base + 36, 4, false);
        more("one below 0 inside another", 2, text, base + 4, -4, false);
        more("one inside another", 2, text, base + 4, 4, false);
        more("the last word of another", 2, text, base + 8, 4, false);
        more("one twice", 2, text, base + 12, 12, false);
        more("one over all", 2, text, base, 36, false);
        more("KIND 18", 18, text, base + 4, 4, false);
        more("KIND 1", 1, text, base + 4, 4, true);
        more("KIND 3", 3, text, base + 4, 4, true);
        more("KIND 0", 0, text, base + 4, 4, true);
        more("KIND 34 in DATA", 34, 1, base + 4, 4, true);
        more("KIND 2 in no section", 2, 0, base + 4, 4, true);
        more("KIND 2 of section 65521", 2, 65521, base + 4, 4, true);
    }

    private static void wholeText() {
        Prog one = new Prog();
        one.function("f").put(Word.ret(30));
        CodeLayout x = Feeder.taken("one function of one word", one.file(), 1);
        Due.is("blocks", x.count(1), 1);
        Due.is("bytes", x.function(0, 1), 4);
        Due.is("lay()", x.lay(4, 4), 4);
        Due.is("moved()", x.moved(one.textAddress()), one.textAddress());
        Due.is("run(2)", x.run(2, 9), 2);
        Prog many = new Prog();
        for (int f = 0; f < 60; f++) {
            many.function("f" + f).put(Word.ret(30));
        }
        CodeLayout y = Feeder.taken("each word a function", many.file(), 60);
        Due.is("blocks", y.count(1), 60);
        Due.is("the last function's first block", y.function(59, 2), 59);
        Due.is("beyond", y.function(60, 0), -14);
    }

    private static void firstBrokenWord() {
        for (int i = 0; i < 9; i++) {
            refused("word " + i, with(word(i), 4, 0), 8, word(i));
            Bytes two = with(word(i), 4, -1).put(word(8), 4, 0);
            refused("word " + i + " and the last", two, 8, word(i));
        }
    }

    private static void instruction(String what, int w, boolean is) {
        if (is) {
            taken(what + " " + Integer.toHexString(w), with(word(4), 4, w));
        } else {
            refused(what + " " + Integer.toHexString(w), with(word(4), 4, w), 8, word(4));
        }
    }

    /** By how much m is moved: below 32 of words; round to the right not of ADD. */
    private static void amounts() {
        for (int amount : new int[] {0, 1, 30, 31, 32, 33, 62, 63}) {
            for (int how = 0; how < 4; how++) {
                int add = Word.shifted(Word.add(1, 2, 3), how, amount);
                int and = Word.shifted(Word.and(1, 2, 3), how, amount);
                instruction("ADD of longs", add, how < 3);
                instruction("ADD of words", Word.narrow(add), how < 3 && amount < 32);
                instruction("AND of longs", and, true);
                instruction("AND of words", Word.narrow(and), amount < 32);
                instruction("AND turned over of words", Word.turned(Word.narrow(and)), amount < 32);
            }
        }
    }

    private static void movesBySixteen() {
        for (int kind = 0; kind < 4; kind++) {
            for (int by = 0; by < 4; by++) {
                int w = 0x92800000 | kind << 29 | by << 21 | 0xFFFF << 5;
                instruction("MOVE of longs", w, kind != 1);
                instruction("MOVE of words", Word.narrow(w), kind != 1 && by < 2);
            }
        }
    }

    private static void twos() {
        for (int what = 0; what < 64; what++) {
            boolean is = what == 2 || what == 3 || what == 8 || what == 9 || what == 10;
            instruction("two", Word.two(1, 2, 3, what), is);
            instruction("two of words", Word.narrow(Word.two(1, 2, 3, what)), is);
        }
    }

    private static void conditions() {
        for (int condition = 0; condition < 16; condition++) {
            instruction("CHOOSE", Word.choose(1, 2, 3, condition), condition < 14);
            instruction("CHOOSE + 1", Word.chooseMore(1, 2, 3, condition), condition < 14);
            instruction("CHOOSE with bit 11", Word.choose(1, 2, 3, condition) | 1 << 11, false);
            instruction("CHOOSE with bit 30", Word.choose(1, 2, 3, condition) | 1 << 30, false);
            instruction("B.cond", 0x54000020 | condition, condition < 14);
            instruction("B.cond with bit 4", 0x54000030 | condition, false);
        }
    }

    private static void widths() {
        for (int width = 0; width < 4; width++) {
            for (int how = 0; how < 4; how++) {
                boolean is = width != 1 && (how < 2 || how == 2 && width == 2);
                instruction("by a number", width << 30 | 0x39000000 | how << 22 | 0xFFF << 10 | 1, is);
                for (int times = 0; times < 2; times++) {
                    instruction("by a register", width << 30 | 0x38206800 | how << 22 | times << 12 | 1, is);
                }
            }
        }
        for (int option = 0; option < 8; option++) {
            instruction("by a register, bits 13 to 15", 0xF8600800 | option << 13, option == 3);
        }
    }

    private static void pairs() {
        int[] registers = {1, 2, 31};
        for (int how = 0; how < 4; how++) {
            for (int d : registers) {
                for (int a : registers) {
                    for (int n : registers) {
                        boolean apart = how == 2 || n == 31 || n != d && n != a;
                        instruction("a pair stored", Word.storePair(how, d, a, n, 8), how > 0 && apart);
                        instruction("a pair loaded", Word.loadPair(how, d, a, n, 8), how > 0 && apart && d != a);
                    }
                }
            }
        }
        instruction("a pair of words", Word.loadPair(2, 1, 2, 3, 8) & 0x7FFFFFFF, false);
        instruction("a pair with bit 30", Word.loadPair(2, 1, 2, 3, 8) | 1 << 30, false);
    }

    private static void callsAndNothing() {
        for (int number : new int[] {0, 1, 32767, 32768, 65535}) {
            instruction("CALL", Word.CALL | number << 5, true);
            instruction("CALL with bit 1", Word.CALL | number << 5 | 2, false);
            instruction("CALL with bit 21", Word.CALL | number << 5 | 1 << 21, false);
        }
        for (int bit = 0; bit < 32; bit++) {
            // With bit 26 it is a SUB, with bit 30 a BL.
            if (bit != 26 && bit != 30) {
                instruction("nothing with bit " + bit, Word.NOP ^ 1 << bit, false);
            }
        }
        for (int n = 0; n < 32; n++) {
            instruction("BR", Word.br(n), true);
            instruction("BLR", Word.blr(n), true);
            instruction("RET", Word.ret(n), true);
        }
        for (int bit : new int[] {0, 4, 10, 15, 16, 20, 23, 31}) {
            instruction("RET with bit " + bit, Word.ret(30) ^ 1 << bit, false);
        }
    }

    /** TYPE 257: the long there is TARGET, each of its bytes. */
    private static void longsOfFixes() {
        Prog p = sample();
        p.pointer(0, 8, "b").pointerToData(0, 16, 0, 5);
        Bytes file = new Bytes(p.file());
        Feeder.taken("longs", file.bytes, 3);
        for (int i = 0; i < 8; i++) {
            for (int k = 0; k < 2; k++) {
                int at = p.dataOffset(0) + 8 + 8 * k + i;
                long old = file.get(at, 1);
                refused("a byte more", new Bytes(file.bytes).put(at, 1, old + 1), 9, p.dataFixOffset(0) + 24 * k);
                refused("a byte less", new Bytes(file.bytes).put(at, 1, old - 1), 9, p.dataFixOffset(0) + 24 * k);
            }
        }
        refused("the first of two", new Bytes(file.bytes).put(p.dataOffset(0) + 8, 16, 0), 9, p.dataFixOffset(0));
        long any = -12345;
        Feeder.taken("a TARGET that is no address", new Bytes(file.bytes).put(p.dataFixOffset(0) + 12, 4, 0)
            .put(p.dataFixOffset(0) + 16, 8, any).put(p.dataOffset(0) + 8, 8, any).bytes, 3);
    }

    private static Prog withPage(int before) {
        Prog p = new Prog();
        p.data(6, 32);
        p.function("a");
        for (int i = 0; i < before; i++) {
            p.put(Word.NOP);
        }
        return p.dataPage(1, 0, 8).put(Word.ret(30));
    }

    private static int adrp(long from, long to) {
        long pages = (to >> 12) - (from >> 12);
        return 0x90000001 | (int) (pages & 3) << 29 | (int) (pages >> 2 & 0x7FFFF) << 5;
    }

    private static void pagesOfFixes() {
        Prog p = withPage(0);
        Bytes file = new Bytes(p.file());
        int fix = p.fixOffset();
        long here = p.textAddress();
        long target = p.dataAddress(0) + 8;
        Feeder.taken("ADRP", file.bytes, 1);
        // An ADD that has the bits of no page more and no page less, and TARGET in this page.
        Bytes notAdrp = new Bytes(file.bytes).put(p.textOffset(), 4, Word.addNumber(1, 0, 0));
        refused("ADD", notAdrp.put(fix + 12, 4, 0).put(fix + 16, 8, here), 9, fix);
        for (long pages : new long[] {-1, 1, 4, -4, 1 << 20, -(1 << 20)}) {
            refused("another page", new Bytes(file.bytes).put(p.textOffset(), 4, adrp(here, target + 4096 * pages)), 9,
                fix);
        }
        for (long low : new long[] {0, 1, 4095}) {
            long to = (target & ~4095) + low;
            Feeder.taken("any byte of the page", new Bytes(file.bytes).put(fix + 12, 4, 0).put(fix + 16, 8, to).bytes,
                1);
        }
        refused("the byte before the page", new Bytes(file.bytes).put(fix + 12, 4, 0).put(fix + 16, 8,
            (target & ~4095) - 1), 9, fix);
        refused("the byte behind the page", new Bytes(file.bytes).put(fix + 12, 4, 0).put(fix + 16, 8,
            (target & ~4095) + 4096), 9, fix);
        long[] targets = {0, 1, 4095, (1L << 31) - 4096, (1L << 31) - 1};
        for (long to : targets) {
            Bytes far = new Bytes(file.bytes).put(fix + 12, 4, 0).put(fix + 16, 8, to);
            CodeLayout x = Feeder.taken("TARGET " + to, far.put(p.textOffset(), 4, adrp(here, to)).bytes, 1);
            Due.holds("same()", x.same());
            x.lay(4, 2097152);
            Due.is("run(2)", x.run(2, 9), 2);
            Due.is("what it makes", x.register(2, 1), to & ~4095);
            Due.is("strays()", x.strays(), 0);
        }
        long[] high = {1L << 31, (1L << 31) + 4096, (1L << 32) - 1, -1, -4096, Long.MIN_VALUE};
        for (long to : high) {
            Bytes far = new Bytes(file.bytes).put(fix + 12, 4, 0).put(fix + 16, 8, to);
            refused("TARGET " + to, far.put(p.textOffset(), 4, adrp(here, to)), 9, fix);
        }
    }

    /** ADRP counts from its own page: right before and right behind where the TEXT comes to a new one. */
    private static void farPages() {
        for (int before : new int[] {900, 970, 971, 972, 973, 974, 975, 976, 977, 978, 979, 980, 1100}) {
            Prog p = withPage(before);
            Feeder.taken("word " + before, p.file(), 1);
            int at = p.textOffset() + 4 * before;
            long here = p.textAddress() + 4 * before;
            int w = (int) new Bytes(p.file()).get(at, 4);
            Due.is("the page", w, adrp(here, p.dataAddress(0)));
            Feeder.refused("another page", new Bytes(p.file()).put(at, 4, adrp(here + 4096, p.dataAddress(0))).bytes, 9,
                p.fixOffset());
        }
    }

    private static Prog withLow(int w, int type, int offset) {
        Prog p = new Prog();
        p.data(6, 64);
        p.function("a").dataLow(w, type, 0, offset).put(Word.ret(30));
        return p;
    }

    private static void numbersOfFixes() {
        int[] types = {277, 278, 285, 286};
        int[] words = {Word.addNumber(1, 2, 0), Word.load(0, 1, 2, 0), Word.load(2, 1, 2, 0), Word.store(3, 1, 2, 0)};
        int[] units = {1, 1, 4, 8};
        for (int k = 0; k < 4; k++) {
            Prog p = withLow(words[k], types[k], 8);
            Bytes file = new Bytes(p.file());
            int fix = p.fixOffset();
            int at = p.textOffset();
            Feeder.taken("TYPE " + types[k], file.bytes, 1);
            int w = (int) file.get(at, 4);
            refused("a number more", new Bytes(file.bytes).put(at, 4, w + (1 << 10)), 9, fix);
            refused("a number less", new Bytes(file.bytes).put(at, 4, w - (1 << 10)), 9, fix);
            for (int low : new int[] {0, 4096 - units[k]}) {
                Bytes edge = new Bytes(file.bytes).put(fix + 12, 4, 0).put(fix + 16, 8, 4096 * 77 + low);
                edge.put(at, 4, words[k] | low / units[k] << 10);
                Feeder.taken("lowest bits " + low, edge.bytes, 1);
                refused("a TARGET more", edge.put(fix + 16, 8, 4096 * 77 + low + 1), 9, fix);
            }
            if (units[k] > 1) {
                // As many units as bytes would do: a number of 4095 units is not that of the lowest 12 bits.
                Bytes over = new Bytes(file.bytes).put(fix + 12, 4, 0).put(fix + 16, 8, 4096 * 77);
                refused("4096 bytes", over.put(at, 4, words[k] | 4096 / units[k] << 10), 9, fix);
            }
            for (int other = 0; other < 4; other++) {
                if (other != k) {
                    refused("another word", new Bytes(file.bytes).put(at, 4, words[other]), 9, fix);
                }
            }
            refused("by a register", new Bytes(file.bytes).put(at, 4, Word.loadAt(3, 1, 2, 3, false)), 9, fix);
            refused("nothing", new Bytes(file.bytes).put(at, 4, Word.NOP), 9, fix);
        }
        // Words that are no loads by a number, though their bits would tell the same width and number.
        int[] alike = {0, Word.narrow(Word.addNumber(1, 2, 0)), Word.addNumber(1, 2, 0), Word.subNumber(1, 2, 0)};
        for (int k = 1; k < 4; k++) {
            Prog p = withLow(alike[k], types[k], 8);
            Feeder.refused("ADD with TYPE " + types[k], p.file(), 9, p.fixOffset());
        }
        Prog byRegister = withLow(Word.loadAt(0, 1, 2, 0, false), 278, 8);
        int itsFix = byRegister.fixOffset();
        int itsNumber = Word.loadAt(0, 1, 2, 0, false) >>> 10 & 4095;
        refused("by a register, the bits fit", new Bytes(byRegister.file()).put(byRegister.textOffset(), 4,
            Word.loadAt(0, 1, 2, 0, false)).put(itsFix + 12, 4, 0).put(itsFix + 16, 8, 4096 * 77 + itsNumber), 9, itsFix);
        for (int bit : new int[] {22, 29, 30, 31}) {
            Prog p = withLow(Word.addNumber(1, 2, 0) ^ 1 << bit, 277, 8);
            Feeder.refused("ADD with bit " + bit, p.file(), 9, p.fixOffset());
        }
        Prog p = withLow(Word.loadSigned(1, 2, 0), 285, 8);
        Feeder.taken("a word with its sign", p.file(), 1);
    }

    private static void goingsOfFixes() {
        Prog p = new Prog();
        p.function("a").bFixed("b").put(Word.ret(30));
        p.function("b").blFixed("a").put(Word.NOP, Word.ret(30));
        Bytes file = new Bytes(p.file());
        Feeder.taken("B and BL", file.bytes, 2);
        for (int k = 0; k < 2; k++) {
            int fix = p.fixOffset() + 24 * k;
            long addend = file.get(fix + 16, 8);
            for (int more : new int[] {-4, -1, 1, 4}) {
                refused("a TARGET elsewhere", new Bytes(file.bytes).put(fix + 16, 8, addend + more), 9, fix);
            }
            int at = p.textOffset() + 8 * k;
            int w = (int) file.get(at, 4);
            refused("BL for B, B for BL", new Bytes(file.bytes).put(at, 4, w ^ 1 << 31), 9, fix);
            refused("a word farther", new Bytes(file.bytes).put(at, 4, w + 1), 9, fix);
            refused("a word nearer", new Bytes(file.bytes).put(at, 4, w & ~0x3FFFFFF | w - 1 & 0x3FFFFFF), 9, fix);
        }
    }

    /** A TARGET in the TEXT is a multiple of 4; of loads and stores none is in the TEXT. */
    private static void targetsInTheText() {
        Prog p = sample();
        p.pointer(0, 0, "a");
        Bytes file = new Bytes(p.file());
        int fix = p.dataFixOffset(0);
        for (int i = 0; i < 36; i++) {
            long to = p.textAddress() + i;
            Bytes other = new Bytes(file.bytes).put(fix + 16, 8, i).put(p.dataOffset(0), 8, to);
            if (i % 4 == 0) {
                Feeder.taken("257 to " + i, other.bytes, 3);
            } else {
                refused("257 to " + i, other, 9, fix);
            }
        }
        int[] types = {277, 278, 285, 286};
        int[] words = {Word.addNumber(1, 2, 0), Word.load(0, 1, 2, 0), Word.load(2, 1, 2, 0), Word.store(3, 1, 2, 0)};
        int[] units = {1, 1, 4, 8};
        for (int k = 0; k < 4; k++) {
            Prog q = withLow(words[k], types[k], 8);
            int at = q.textOffset();
            for (int i = -8; i < 24; i++) {
                // The TEXT has eight bytes from a multiple of 16 on.
                long to = q.textAddress() + i;
                Bytes other = new Bytes(q.file()).put(q.fixOffset() + 12, 4, 0).put(q.fixOffset() + 16, 8, to);
                other.put(at, 4, words[k] | (int) (to & 0xFFF) / units[k] << 10);
                boolean inText = i >= 0 && i < 8;
                boolean fits = (to & units[k] - 1) == 0 && i != 8 && (!inText || types[k] == 277 && i % 4 == 0);
                if (fits) {
                    Feeder.taken(types[k] + " to " + i, other.bytes, 1);
                } else {
                    refused(types[k] + " to " + i, other, 9, q.fixOffset());
                }
            }
        }
    }

    private static void targetsAtTheEnd() {
        Prog p = withPage(0);
        long end = p.textAddress() + 8;
        Bytes file = new Bytes(p.file()).put(p.fixOffset() + 12, 4, 0);
        file.put(p.textOffset(), 4, adrp(p.textAddress(), end));
        refused("275 to the TEXT's end", new Bytes(file.bytes).put(p.fixOffset() + 16, 8, end), 9, p.fixOffset());
        Feeder.taken("275 to the last word", new Bytes(file.bytes).put(p.fixOffset() + 16, 8, end - 4).bytes, 1);
        Feeder.taken("275 behind the TEXT's end", new Bytes(file.bytes).put(p.fixOffset() + 16, 8, end + 1).bytes, 1);
        for (int i = 1; i < 4; i++) {
            refused("275 into a word", new Bytes(file.bytes).put(p.fixOffset() + 16, 8, end - i), 9, p.fixOffset());
        }
        Prog q = sample();
        q.pointer(0, 0, "a");
        long last = q.textAddress() + 36;
        Bytes pointed = new Bytes(q.file());
        int fix = q.dataFixOffset(0);
        refused("257 to the TEXT's end", new Bytes(pointed.bytes).put(fix + 16, 8, 36).put(q.dataOffset(0), 8, last), 9,
            fix);
        Feeder.taken("257 behind it", new Bytes(pointed.bytes).put(fix + 16, 8, 37).put(q.dataOffset(0), 8, last + 1)
            .bytes, 3);
        Feeder.taken("257 before the TEXT", new Bytes(pointed.bytes).put(fix + 16, 8, -1).put(q.dataOffset(0), 8,
            last - 37).bytes, 3);
    }

    private static void adrpWithoutFix() {
        for (int i = 0; i < 9; i++) {
            if (i % 3 < 2) {
                refused("word " + i, with(word(i), 4, 0x90000001), 10, word(i));
            }
        }
        refused("the first of two", with(word(7), 4, 0x90000001).put(word(4), 4, 0x90000001), 10, word(4));
    }

    /** From the middle word of the middle function to each word of the TEXT and one beyond. */
    private static void goingsIntoTheFunction() {
        for (int to = -1; to <= 9; to++) {
            int by = to - 4;
            int[] words = {0x54000000 | (by & 0x7FFFF) << 5, 0xB4000000 | (by & 0x7FFFF) << 5,
                0x35000000 | (by & 0x7FFFF) << 5, 0x36000000 | (by & 0x3FFF) << 5, 0xB7000000 | (by & 0x3FFF) << 5};
            for (int w : words) {
                if (to >= 3 && to <= 5) {
                    CodeLayout x = taken("to word " + to, with(word(4), 4, w));
                    Due.is("END", x.block(to == 3 ? 1 : to == 4 ? 2 : 1, 3), 3);
                } else {
                    refused("to word " + to, with(word(4), 4, w), 11, word(4));
                }
            }
        }
        int[] far = {0x54800000, 0xB4800000, 0x36040000, 0x547FFFE0, 0x3603FFE0};
        for (int w : far) {
            refused("the farthest", with(word(4), 4, w), 11, word(4));
        }
    }

    private static void goingsOfBAndBl() {
        for (int to = -1; to <= 9; to++) {
            boolean first = to == 0 || to == 3 || to == 6;
            boolean inside = to >= 3 && to <= 5;
            int by = to - 4 & 0x3FFFFFF;
            if (first || inside) {
                taken("B to word " + to, with(word(4), 4, Prog.B | by));
            } else {
                refused("B to word " + to, with(word(4), 4, Prog.B | by), 11, word(4));
            }
            if (first) {
                taken("BL to word " + to, with(word(4), 4, Prog.BL | by));
            } else {
                refused("BL to word " + to, with(word(4), 4, Prog.BL | by), 11, word(4));
            }
        }
        for (int by : new int[] {0x2000000, 0x1FFFFFF}) {
            refused("B the farthest", with(word(4), 4, Prog.B | by), 11, word(4));
            refused("BL the farthest", with(word(4), 4, Prog.BL | by), 11, word(4));
        }
        refused("the first of two", with(word(7), 4, Prog.BL | 1).put(word(1), 4, Prog.BL | 1), 11, word(1));
    }

    private static void lastWords() {
        int[] ending = {Prog.B, Word.br(1), Word.ret(30), Prog.B | -2 & 0x3FFFFFF};
        int[] others = {Word.NOP, Word.CALL, Word.blr(1), Prog.BL | -2 & 0x3FFFFFF, 0x54FFFFE0, 0xB4000000, 0x36000000,
            Word.movz(1, 2, 0)};
        for (int last : new int[] {2, 5, 8}) {
            for (int w : ending) {
                taken("a last word", with(word(last), 4, w));
            }
            for (int w : others) {
                refused("no last word", with(word(last), 4, w), 12, word(last));
            }
        }
        refused("the first of two", with(word(8), 4, Word.NOP).put(word(5), 4, Word.NOP), 12, word(5));
    }

    /** Where B goes, and the word behind what goes away, begin blocks: at the first and the last word too. */
    private static void leadersAtTheEdges() {
        Due.is("no leaders inside", taken("plain", new Bytes(good)).count(1), 3);
        Due.is("B to the first word", taken("", with(word(4), 4, Prog.B | -1 & 0x3FFFFFF)).count(1), 4);
        Due.is("B to itself", taken("", with(word(4), 4, Prog.B)).count(1), 5);
        Due.is("B to the last word", taken("", with(word(4), 4, Prog.B | 1)).count(1), 4);
        Due.is("the first word B.cond to itself", taken("", with(word(3), 4, 0x54000000)).count(1), 4);
        Due.is("BL leads behind it alone", taken("", with(word(4), 4, Prog.BL | 2)).count(1), 4);
        for (int w : new int[] {Word.br(1), Word.blr(1), Word.ret(1)}) {
            Due.is("the word behind", taken("", with(word(3), 4, w)).count(1), 4);
        }
        Due.is("CALL leads nowhere", taken("", with(word(3), 4, Word.CALL)).count(1), 3);
        CodeLayout x = taken("", with(24, 8, prog.textAddress() + 32));
        Due.is("ENTRY at the last word", x.count(1), 4);
        Due.is("its block", x.block(3, 0), prog.textAddress() + 32);
        Due.is("the block before it", x.block(2, 3), 0);
        Due.is("its NEXT", x.block(2, 4), 3);
        Due.is("no NEXT behind a function's last block", x.block(1, 4), -1);
    }

    /** A TARGET of each type of fix that may have it in the TEXT begins a block, also if no other fix has it. */
    private static void leadersOfFixes() {
        for (int type : new int[] {257, 275, 277}) {
            Prog p = new Prog();
            p.data(6, 16);
            p.function("f").put(Word.NOP);
            if (type == 257) {
                p.pointer(0, 8, "in");
            } else if (type == 275) {
                p.codePage(1, "in");
            } else {
                p.codeLow(1, 1, "in");
            }
            p.put(Word.NOP).label("in").put(Word.NOP, Word.ret(30));
            CodeLayout x = Feeder.taken("TYPE " + type, p.file(), 1);
            Due.is("blocks, TYPE " + type, x.count(1), 2);
            Due.is("the second block, TYPE " + type, x.block(1, 0), p.address("in"));
            Due.is("named, TYPE " + type, x.block(1, 6), type == 257 ? 1 : 0);
            Due.is("the first is not named, TYPE " + type, x.block(0, 6), 0);
        }
    }

    private static void namedAtTheEdges() {
        Prog p = sample();
        p.pointer(0, 0, "a").label("end").pointer(0, 8, "c");
        long last = p.textAddress() + 32;
        p.pointer(0, 16, "c");
        Bytes file = new Bytes(p.file()).put(p.dataOffset(0) + 16, 8, last).put(p.dataFixOffset(0) + 48 + 16, 8, 32);
        CodeLayout x = Feeder.taken("pointers", file.bytes, 3);
        Due.is("blocks", x.count(1), 4);
        Due.is("the first word's block", x.block(0, 6), 1);
        Due.is("one without a pointer", x.block(1, 6), 0);
        Due.is("a function's first", x.block(2, 6), 1);
        Due.is("the last word's block", x.block(3, 6), 1);
        Due.is("the last word's block", x.block(3, 1), 1);
    }

    /** Blocks with each END, all with a block behind them in their function: END, NEXT, TAKEN. */
    private static void eachEnd() {
        Prog p = new Prog();
        p.function("f").label("a").put(Word.NOP).label("b").put(Word.NOP).b("a").put(Word.NOP).b("next");
        p.label("next").put(Word.NOP).b("g").put(Word.NOP).bcond(Word.LT, "b").cbz(1, "a").cbnz(1, "b");
        p.tbz(1, 5, "end").tbnz(1, 40, "next").bl("g").bl("f").put(Word.blr(1), Word.br(1), Word.ret(1));
        p.b("f").label("end").put(Word.ret(30));
        p.function("g").put(Word.ret(30));
        p.data(6, 8);
        p.pointer(0, 0, "b");
        CodeLayout x = Feeder.taken("each END", p.file(), 2);
        int[][] due = {{0, 1, -1}, {1, -1, 0}, {1, -1, 3}, {2, -1, -1}, {3, 5, 1}, {3, 6, 0}, {3, 7, 1}, {3, 8, 15},
            {3, 9, 3}, {4, 10, -1}, {4, 11, -1}, {5, 12, -1}, {6, -1, -1}, {7, -1, -1}, {1, -1, 0}, {7, -1, -1},
            {7, -1, -1}};
        Due.is("blocks", x.count(1), due.length);
        for (int b = 0; b < due.length; b++) {
            Due.is("END of block " + b, x.block(b, 3), due[b][0]);
            Due.is("NEXT of block " + b, x.block(b, 4), due[b][1]);
            Due.is("TAKEN of block " + b, x.block(b, 5), due[b][2]);
            Due.is("named, block " + b, x.block(b, 6), b == 1 ? 1 : 0);
            eachWay(x, b, due[b]);
        }
    }

    /** Successors are NEXT and TAKEN, with BR what is named; called are the functions' first blocks 0 and 16. */
    private static void eachWay(CodeLayout x, int u, int[] due) {
        int[] called = u == 3 || u == 9 ? new int[] {16} : u == 10 ? new int[] {0} : new int[] {0, 16};
        for (int v = 0; v < x.count(1); v++) {
            boolean way = v == due[1] || v == due[2] || due[0] == 6 && v == 1;
            boolean call = false;
            for (int first : called) {
                call |= v == first && (due[0] == 2 || due[0] == 4 || due[0] == 5);
            }
            long from = x.block(u, 0) + 4 * x.block(u, 1) - 4;
            Due.is("edge from block " + u + " to " + v, x.edge(from, x.block(v, 0), 1), way || call ? 0 : -4);
            Due.is("way", x.way(u, v), way ? 1 : 0);
        }
    }
}
