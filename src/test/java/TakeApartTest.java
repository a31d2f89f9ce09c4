/** Promises 4 to 8: rules 7 to 12 with their places, and what a file is taken apart into. */
public final class TakeApartTest {
    private static Prog prog;
    private static byte[] good;

    public static void main(String[] args) {
        prog = sample();
        good = prog.file();
        functionRules();
        wordRules();
        fixRules();
        goingRules();
        counts();
        functions();
        blocks();
        entryLeads();
        callsAndLeaps();
        refusedChangesNothing();
        Due.end("TakeApartTest");
    }

    /** Words 0 to 15 are main, 16 to 19 other. */
    private static Prog sample() {
        Prog p = new Prog();
        p.data(6, 64);
        p.function("main").dataPage(1, 0, 8);
        p.dataLow(Word.addNumber(1, 1, 0), 277, 0, 8);
        p.dataLow(Word.load(0, 2, 1, 0), 278, 0, 9);
        p.dataLow(Word.load(2, 2, 1, 0), 285, 0, 12);
        p.dataLow(Word.store(3, 2, 1, 0), 286, 0, 16);
        p.blFixed("other");
        p.codePage(3, "inner").codeLow(3, 3, "inner");
        p.label("loop").put(Word.subsNumber(4, 4, 1)).bcond(Word.NE, "loop");
        p.cbz(5, "loop").tbz(5, 33, "out");
        p.put(Word.blr(3)).label("out").put(Word.movz(8, 93, 0), Word.CALL).bFixed("loop");
        p.function("other").put(Word.NOP).label("inner").put(Word.NOP).b("main").put(Word.ret(30));
        p.pointer(0, 0, "inner").pointerToData(0, 8, 0, 8);
        return p;
    }

    private static Bytes with(int at, int n, long value) {
        return new Bytes(good).put(at, n, value);
    }

    private static void breaks(String what, Bytes file, int rule, int at) {
        CodeLayout x = new CodeLayout();
        Feeder.feed(x, file.bytes);
        Due.is(what + ": read()", x.read(), -rule);
        Due.is(what + ": place()", x.place(), at);
    }

    private static int word(int i) {
        return prog.textOffset() + 4 * i;
    }

    private static void functionRules() {
        int main = prog.symbolAt(prog.functionSymbol(0));
        int other = prog.symbolAt(prog.functionSymbol(1));
        int text = prog.textOffset();
        long base = prog.textAddress();
        breaks("SIZE 0", with(main + 16, 8, 0), 7, text);
        breaks("SIZE no multiple of 4", with(main + 16, 8, 62), 7, text);
        breaks("SIZE huge", with(main + 16, 8, -64), 7, text);
        breaks("a gap", with(main + 16, 8, 60), 7, text);
        breaks("one over another", with(main + 16, 8, 68), 7, text);
        breaks("a gap at the end", with(other + 16, 8, 12), 7, text);
        breaks("beyond the end", with(other + 16, 8, 20), 7, text);
        breaks("a gap at the beginning", with(main + 8, 8, base + 4).put(main + 16, 8, 60), 7, text);
        breaks("two the same", with(other + 8, 8, base).put(other + 16, 8, 64), 7, text);
        breaks("none", with(main + 4, 1, 1).put(other + 4, 1, 0), 7, text);
        breaks("one at the end", with(prog.symbolAt(1) + 4, 1, 2).put(prog.symbolAt(1) + 8, 8, base + 80)
            .put(prog.fixOffset(), 8, base), 7, text);
        breaks("rule 7 before 8", with(main + 16, 8, 0).put(word(0), 4, 0), 7, text);
        CodeLayout x = new CodeLayout();
        Feeder.feed(x, with(main + 4, 1, 0xF2).bytes);
        Due.is("only the low bits of KIND count", x.read(), 2);
    }

    private static void wordRules() {
        int[] none = {0, -1, 0x8B208000, 0x8BC00000, 0x0B008000, 0x0A008000, 0xB2800000, 0x52C00000, 0x9AC00400,
            0x9AC01000, 0x9A80E000, 0x9A80F000, 0xDA800000, 0x9A800800, 0x79400000, 0xF9800000, 0x39800000,
            0xF9C00000, 0xB8207800 ^ 0x800, 0xA8000000, 0xA8C07C00 | 31, 0xA8C10421, 0xA9C10020 | 1 << 10, 0x5400000E,
            0x5400000F, 0x54000010, 0xD61F0001, 0xD65F0800, 0xD4000002, 0xD503203F, 0x12000000, 0x9B200000,
            0xBA000000, 0x38400000, 0x10000000};
        for (int w : none) {
            breaks("no instruction " + Integer.toHexString(w), with(word(13), 4, w), 8, word(13));
        }
        int[] some = {0x11000000, 0x7100FC1F, 0xB17FFFFF, 0x8B9FFC00, 0x0B5F7C00, 0x4A807C00, 0xEAFFFFFF, 0x12BFFFFF,
            0xD2FFFFFF, 0x729FFFFF, 0x1B1FFFFF, 0x9B007C00, 0x1ADF0BFF, 0x9AC02800, 0x1A9FD7FF, 0x9A9FD000,
            0x39000000, 0x397FFFFF, 0xB9BFFFFF, 0xF97FFFFF, 0x38207800, 0xB8BF6BFF, 0xF8606800, 0xA88003FF,
            0xA97F07E0, 0xA9FF87E0, 0xA9010400, 0xA9000421, 0xD4001001, 0xD41FFFE1, 0xD503201F};
        for (int w : some) {
            CodeLayout x = new CodeLayout();
            Feeder.feed(x, with(word(13), 4, w).bytes);
            Due.is("an instruction " + Integer.toHexString(w), x.read(), 2);
        }
        breaks("the first word", with(word(0), 4, 0), 8, word(0));
        breaks("the last word", with(word(19), 4, 0), 8, word(19));
        breaks("the first of two words", with(word(13), 4, 0).put(word(8), 4, 0), 8, word(8));
        breaks("rule 8 before 9", with(word(13), 4, 0).put(word(0), 4, Word.NOP), 8, word(13));
    }

    private static int fix(int k) {
        return prog.fixOffset() + 24 * k;
    }

    private static Bytes changed(int i, int bits) {
        return with(word(i), 4, (int) new Bytes(good).get(word(i), 4) ^ bits);
    }

    private static void fixRules() {
        int ofData = prog.dataFixOffset(0);
        long base = prog.textAddress();
        breaks("275 no ADRP", with(word(0), 4, Word.NOP), 9, fix(0));
        breaks("275 another page", changed(0, 1 << 29), 9, fix(0));
        breaks("275 a high TARGET", with(fix(0) + 16, 8, 1L << 31), 9, fix(0));
        breaks("275 a TARGET just too high", highPage(1L << 31), 9, fix(0));
        CodeLayout high = new CodeLayout();
        Feeder.feed(high, highPage((1L << 31) - 1).bytes);
        Due.is("275 the highest TARGET", high.read(), 2);
        breaks("277 another number", changed(1, 1 << 10), 9, fix(1));
        breaks("277 SUB", changed(1, 1 << 30), 9, fix(1));
        breaks("277 with flags", changed(1, 1 << 29), 9, fix(1));
        breaks("277 of words", changed(1, 1 << 31), 9, fix(1));
        breaks("277 moved by 12", changed(1, 1 << 22), 9, fix(1));
        breaks("277 no ADD", with(word(1), 4, Word.NOP), 9, fix(1));
        breaks("278 of a word", changed(2, 2 << 30), 9, fix(2));
        breaks("278 another number", changed(2, 1 << 10), 9, fix(2));
        breaks("285 of a byte", changed(3, 2 << 30), 9, fix(3));
        breaks("285 another number", changed(3, 1 << 10), 9, fix(3));
        breaks("286 another number", changed(4, 1 << 10), 9, fix(4));
        breaks("286 by a register", with(word(4), 4, Word.storeAt(3, 2, 1, 2, true)), 9, fix(4));
        breaks("283 to another place", changed(5, 1), 9, fix(5));
        breaks("283 at B", changed(5, 1 << 31), 9, fix(5));
        breaks("282 at BL", changed(15, 1 << 31), 9, fix(8));
        breaks("282 to another place", changed(15, 1), 9, fix(8));
        breaks("257 another long", with(prog.dataOffset(0), 8, base), 9, ofData);
        breaks("257 TARGET the TEXT's end", with(prog.dataOffset(0), 8, base + 80).put(ofData + 16, 8, 80), 9, ofData);
        breaks("257 TARGET no multiple of 4", with(prog.dataOffset(0), 8, base + 6).put(ofData + 16, 8, 6), 9, ofData);
        breaks("fixes of the TEXT stand first", with(prog.dataOffset(0), 8, base).put(word(15), 4, Word.ret(30)), 9,
            fix(8));
        breaks("278 TARGET in the TEXT", loadOfText(), 9, fix(2));
        breaks("rule 9 before 10", with(word(1), 4, 0x90000001), 9, fix(1));
        int signed = (int) new Bytes(good).get(word(3), 4) ^ 0xC00000;
        CodeLayout x = new CodeLayout();
        Feeder.feed(x, with(word(3), 4, signed).bytes);
        Due.is("285 at a load with sign", x.read(), 2);
    }

    /** Makes the ADRP of the first word tell a page by symbol 0, which is at 0. */
    private static Bytes highPage(long target) {
        long pages = (target >> 12) - (prog.textAddress() >> 12);
        int w = 0x90000001 | (int) (pages & 3) << 29 | (int) (pages >> 2 & 0x7FFFF) << 5;
        return with(word(0), 4, w).put(fix(0) + 12, 4, 0).put(fix(0) + 16, 8, target);
    }

    /** Makes the TARGET of the fix 278 a byte of the TEXT with the same low bits. */
    private static Bytes loadOfText() {
        long target = prog.textAddress() + 8;
        int w = Word.load(0, 2, 1, (int) (target & 0xFFF));
        return with(word(2), 4, w).put(fix(2) + 12, 4, 1).put(fix(2) + 16, 8, 8);
    }

    private static void goingRules() {
        breaks("ADRP without a fix", with(word(13), 4, 0x90000001), 10, word(13));
        breaks("rule 10 before 11", with(word(13), 4, 0x90000001).put(word(9), 4, 0x54000201), 10, word(13));
        breaks("B.cond out", with(word(9), 4, 0x540000E1), 11, word(9));
        breaks("CBZ out", with(word(10), 4, 0xB4000000 | 6 << 5), 11, word(10));
        breaks("CBNZ before the TEXT", with(word(10), 4, 0xB5000000 | (-11 & 0x7FFFF) << 5), 11, word(10));
        breaks("TBZ out", with(word(11), 4, 0x36000000 | 5 << 5), 11, word(11));
        breaks("B into another function", with(word(13), 4, Prog.B | 4), 11, word(13));
        breaks("B beyond the TEXT", with(word(13), 4, Prog.B | 7), 11, word(13));
        breaks("BL into a function", with(word(13), 4, Prog.BL | 4), 11, word(13));
        breaks("BL into its own function", with(word(13), 4, Prog.BL | (-5 & 0x3FFFFFF)), 11, word(13));
        breaks("BL far before", with(word(13), 4, Prog.BL | 0x2000000), 11, word(13));
        breaks("rule 11 before 12", with(word(13), 4, Prog.B | 4).put(word(19), 4, Word.NOP), 11, word(13));
        breaks("a last word", with(word(19), 4, Word.NOP), 12, word(19));
        breaks("BLR last", with(word(19), 4, Word.blr(1)), 12, word(19));
        breaks("BL last", with(word(19), 4, Prog.BL | (-3 & 0x3FFFFFF)), 12, word(19));
        breaks("B.cond last", with(word(19), 4, 0x54FFFFE0), 12, word(19));
        breaks("CALL last", with(word(19), 4, Word.CALL), 12, word(19));
        CodeLayout x = new CodeLayout();
        Feeder.feed(x, with(word(19), 4, Word.br(3)).put(word(13), 4, Prog.BL | (-13 & 0x3FFFFFF)).bytes);
        Due.is("BR last, BL to its own function's first word", x.read(), 2);
    }

    private static void counts() {
        CodeLayout x = Feeder.read(good, 2);
        Due.is("count(0)", x.count(0), 2);
        Due.is("count(1)", x.count(1), 10);
        Due.is("count(2)", x.count(2), 80);
        Due.is("count(3)", x.count(3), good.length);
        Due.is("count(4)", x.count(4), 11);
        Due.is("count(-1)", x.count(-1), -14);
        Due.is("count(5)", x.count(5), -14);
        Prog p = sample();
        p.noFix().noFix();
        Due.is("fixes of TYPE 0 do not count", Feeder.read(p.file(), 2).count(4), 11);
    }

    private static void functions() {
        CodeLayout x = Feeder.read(good, 2);
        long base = prog.textAddress();
        long[][] due = {{base, 64, 0, 0}, {base + 64, 16, 7, 0}};
        for (int f = 0; f < 2; f++) {
            for (int what = 0; what < 4; what++) {
                Due.is("function(" + f + ", " + what + ")", x.function(f, what), due[f][what]);
            }
        }
        Due.is("function(2, 0)", x.function(2, 0), -14);
        Due.is("function(-1, 0)", x.function(-1, 0), -14);
        Due.is("function(0, 4)", x.function(0, 4), -14);
        Due.is("function(0, -1)", x.function(0, -1), -14);
    }

    private static void blocks() {
        CodeLayout x = Feeder.read(good, 2);
        long base = prog.textAddress();
        // word, words, function, END, NEXT, TAKEN, named
        long[][] due = {
            {0, 6, 0, 4, 1, -1, 0},
            {6, 2, 0, 0, 2, -1, 0},
            {8, 2, 0, 3, 3, 2, 0},
            {10, 1, 0, 3, 4, 2, 0},
            {11, 1, 0, 3, 5, 6, 0},
            {12, 1, 0, 5, 6, -1, 0},
            {13, 3, 0, 1, -1, 2, 0},
        };
        for (int b = 0; b < due.length; b++) {
            Due.is("block(" + b + ", 0)", x.block(b, 0), base + 4 * due[b][0]);
            for (int what = 1; what < 7; what++) {
                Due.is("block(" + b + ", " + what + ")", x.block(b, what), due[b][what]);
            }
            Due.is("block(" + b + ", 7)", x.block(b, 7), 0);
        }
        Due.is("block(10, 0)", x.block(10, 0), -14);
        Due.is("block(-1, 0)", x.block(-1, 0), -14);
        Due.is("block(0, 8)", x.block(0, 8), -14);
        Due.is("block(0, -1)", x.block(0, -1), -14);
    }

    private static void entryLeads() {
        CodeLayout x = Feeder.read(with(24, 8, prog.textAddress() + 8).bytes, 2);
        Due.is("one block more with ENTRY", x.count(1), 11);
        Due.is("ENTRY begins a block", x.block(1, 0), prog.textAddress() + 8);
        Due.is("the block before has no END", x.block(0, 3), 0);
        Due.is("its NEXT", x.block(0, 4), 1);
    }

    private static void callsAndLeaps() {
        CodeLayout x = Feeder.read(good, 2);
        // other: NOP; inner: NOP, B main; RET
        int first = (int) x.function(1, 2);
        Due.is("B out of the function", x.block(first + 1, 3), 2);
        Due.is("its NEXT", x.block(first + 1, 4), -1);
        Due.is("its TAKEN", x.block(first + 1, 5), -1);
        Due.is("inner is named", x.block(first + 1, 6), 1);
        Due.is("RET", x.block(first + 2, 3), 7);
        Due.is("RET's NEXT", x.block(first + 2, 4), -1);
        CodeLayout y = Feeder.read(with(word(19), 4, Word.br(3)).bytes, 2);
        Due.is("BR", y.block(first + 2, 3), 6);
        Due.is("BR's TAKEN", y.block(first + 2, 5), -1);
        Prog late = new Prog();
        late.function("a").put(Word.NOP, Word.ret(30));
        late.function("b").put(Word.ret(30));
        late.entry = "b";
        Due.is("functions alone make blocks", Feeder.read(late.file(), 2).count(1), 2);
        breaks("the first word goes away", new Bytes(late.file()).put(late.textOffset(), 4, 0x54000060), 11,
            late.textOffset());
        Prog p = new Prog();
        p.function("a").b("a");
        CodeLayout z = Feeder.read(p.file(), 1);
        Due.is("B to its own function's first word is in it", z.block(0, 3), 1);
        Due.is("its TAKEN", z.block(0, 5), 0);
    }

    private static void refusedChangesNothing() {
        CodeLayout x = Feeder.read(good, 2);
        x.edge(prog.textAddress() + 20, prog.textAddress() + 24, 5);
        x.lay(64, 4);
        x.run(0, 3);
        Feeder.feed(x, with(word(19), 4, Word.NOP).bytes);
        Due.is("a refused read()", x.read(), -12);
        Due.is("its place()", x.place(), word(19));
        Due.is("the file stays", x.count(2), 80);
        Due.is("counts stay", x.way(0, 1), 5);
        Due.is("what is laid stays", x.laid(0), 2);
        Due.is("runs stay", x.told(0, 0), 1);
        Due.is("the tray is used up", x.feed(0, 0, 0, 0, 0), 20);
        x.end(0);
        Feeder.feed(x, good);
        Due.is("a taken read()", x.read(), 2);
        Due.is("its place()", x.place(), -1);
        Due.is("counts are forgotten", x.way(0, 1), 0);
        Due.is("what is laid is forgotten", x.laid(0), -14);
        Due.is("runs are forgotten", x.told(0, 0), -14);
    }
}
