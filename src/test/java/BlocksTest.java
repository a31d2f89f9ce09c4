/** Promises 24, 25, 28 and 29, and run 1: what is CODE, what may be done with it, and what stops the run. */
public final class BlocksTest {
    private static final long STACK = 2147483648L;

    public static void main(String[] args) {
        kinds();
        mayBeDone();
        stopsOfRegisters();
        stopsOfAdding();
        stopsOfMemory();
        stopsOfPairs();
        stopsOfAddresses();
        stopsOfCalls();
        codeAtTheEnd();
        stopsBeforeFaults();
        newTextCounts();
        chosen();
        stackPointer();
        keptInMemory();
        conditionsUseNoRegister();
        pointersToData();
        bitsThatAreNoRegister();
        loadedOverCode();
        Due.end("BlocksTest");
    }

    /** X3 is START of there, X4 START by a pointer at data + 16, X5 PAGE, X30 RETURN, X9 data, X10 data + 16. */
    private static Prog begin() {
        Prog p = new Prog();
        p.data(6, 64);
        p.data(4, 24);
        p.function("f").put(Word.NOP).bl("g").label("back").codeAddress(3, "there").codePage(5, "there");
        p.dataAddress(9, 0, 0).put(Word.load(3, 4, 9, 16), Word.addNumber(10, 9, 16));
        p.pointer(0, 16, "there").pointer(1, 8, "back");
        return p;
    }

    private static Prog end(Prog p) {
        p.exit().label("there").put(Word.movz(0, 77, 0)).exit().label("stay").b("stay");
        p.function("g").put(Word.ret(30));
        return p;
    }

    private static CodeLayout ran(int outcome, String what, int... words) {
        return ran(outcome, what, begin().put(words));
    }

    private static CodeLayout ran(int outcome, String what, Prog begun) {
        Prog p = end(begun);
        CodeLayout x = Feeder.read(p.file(), 2);
        Due.is(what, x.run(1, 100), outcome);
        Due.is(what + ": outcome", x.told(1, 5), outcome);
        return x;
    }

    private static void stops(String what, int... words) {
        int done = 2 + 1 + 3 + 4 + words.length - 1;
        CodeLayout x = ran(3, what, words);
        Due.is(what + ": instructions", x.told(1, 1), done);
    }

    private static void goesOn(String what, int... words) {
        ran(1, what, words);
    }

    private static void kinds() {
        Prog p = end(begin());
        CodeLayout x = Feeder.read(p.file(), 2);
        x.edge(p.textAddress() + 4, p.address("g"), 3);
        x.lay(64, 4096);
        x.run(0, 100);
        Due.is("run(1)", x.run(1, 100), 1);
        x.run(2, 100);
        int[] due = {0, 0, 0, 1, 1, 3, 0, 0, 0, 0, 0};
        for (int k = 0; k < due.length; k++) {
            Due.is("kind(" + k + ")", x.kind(k), due[k]);
        }
        Due.is("kind(30)", x.kind(30), 2);
        Due.is("kind(31)", x.kind(31), 0);
        long there = p.address("there");
        Due.is("START's old address", x.register(1, 3), there);
        Due.is("START's old address by a pointer", x.register(1, 4), there);
        Due.is("PAGE has none", x.register(1, 5), 0);
        Due.is("RETURN's old address", x.register(1, 30), p.address("back"));
        Due.holds("there has moved", x.moved(there) != there);
        Due.is("START's new address", x.newer(3), x.moved(there));
        Due.is("START's new address by a pointer", x.newer(4), x.moved(there));
        Due.is("PAGE's new address", x.newer(5), 0);
        Due.is("RETURN's new address", x.newer(30), x.moved(p.textAddress() + 4) + 4);
        Due.holds("is not that of the block", x.newer(30) != x.moved(p.address("back")));
        Due.is("a number", x.newer(9), p.dataAddress(0));
        for (int k : new int[] {3, 4, 30}) {
            Due.is("run 2 has the new address", x.register(2, k), x.newer(k));
            Due.is("run 0 has the old one", x.register(0, k), x.register(1, k));
        }
        CodeLayout y = Feeder.read(p.file(), 2);
        y.run(1, 100);
        Due.is("nothing laid: the old address", y.newer(3), there);
        Due.is("of RETURN too", y.newer(30), p.address("back"));
    }

    private static void mayBeDone() {
        goesOn("moved", Word.copy(6, 3), Word.copy(7, 30));
        CodeLayout x = ran(1, "moved", Word.copy(6, 3), Word.copy(7, 30), Word.copy(31, 3));
        Due.is("START moved", x.kind(6), 1);
        Due.is("RETURN moved", x.kind(7), 2);
        Due.is("nothing to 31", x.kind(31), 0);
        goesOn("any way to move by 0", Word.shifted(Word.copy(6, 3), 1, 0), Word.shifted(Word.copy(6, 3), 3, 0));
        goesOn("overwritten", Word.movz(3, 1, 0), Word.add(3, 3, 3));
        goesOn("stored and loaded", Word.store(3, 3, 9, 0), Word.load(3, 6, 9, 0));
        goesOn("a pair", Word.storePair(3, 3, 30, 31, -16), Word.loadPair(1, 6, 7, 31, 16));
        goesOn("at a register", Word.storeAt(3, 3, 10, 31, true), Word.loadAt(3, 6, 10, 31, false));
        goesOn("a number over CODE", Word.store(3, 9, 9, 16), Word.load(0, 6, 9, 16));
        goesOn("CODE to 31", Word.load(3, 31, 9, 16), Word.loadPair(2, 31, 6, 9, 16));
        CodeLayout y = ran(1, "gone to", Word.br(3));
        Due.is("X0 there", y.register(1, 0), 77);
        Due.is("by RET", ran(1, "RET", Word.ret(4)).register(1, 0), 77);
        Due.is("by BLR", ran(1, "BLR", Word.blr(4)).register(1, 0), 77);
        Prog p = begin().cbz(20, "go").b("there").label("go").put(Word.movz(20, 1, 0), Word.br(30));
        CodeLayout z = ran(1, "RETURN gone to", p);
        Due.is("X0 at the end", z.register(1, 0), 77);
        goesOn("B.cond uses no register", Word.subs(31, 31, 31));
        Due.is("ADRP to 31", ran(1, "ADRP to 31", begin().codePage(31, "there")).kind(31), 0);
    }

    private static void stopsOfRegisters() {
        stops("ADD of n", Word.add(6, 3, 31));
        stops("ADD of m", Word.add(6, 31, 30));
        stops("ADD to 31", Word.add(31, 3, 31));
        stops("SUBS", Word.subs(31, 3, 4));
        stops("ADD by 0", Word.addNumber(6, 3, 0));
        stops("and", Word.and(6, 3, 3));
        stops("or of n", Word.or(6, 3, 31));
        stops("or of two", Word.or(6, 3, 3));
        stops("or of words", Word.narrow(Word.copy(6, 3)));
        stops("or not", Word.turned(Word.copy(6, 3)));
        stops("or moved", Word.shifted(Word.copy(6, 3), 0, 1));
        stops("xor", Word.xor(6, 31, 3));
        stops("and with flags", Word.ands(31, 31, 3));
        stops("PAGE moved", Word.copy(6, 5));
        stops("PAGE moved to 31", Word.copy(31, 5));
        stops("16 bits of CODE", Word.movk(3, 0, 0));
        stops("MADD n", Word.madd(6, 3, 31, 31));
        stops("MADD m", Word.madd(6, 31, 3, 31));
        stops("MADD a", Word.madd(31, 31, 31, 30));
        stops("two n", Word.two(6, 3, 31, 8));
        stops("two m", Word.two(6, 31, 3, 2));
        stops("BR of PAGE", Word.br(5));
        ran(3, "CBZ", begin().cbz(3, "there"));
        ran(3, "CBNZ of RETURN", begin().cbnz(30, "there"));
        ran(3, "TBZ of PAGE", begin().tbz(5, 1, "there"));
        ran(1, "CBZ of a number", begin().cbz(9, "there"));
    }

    private static void stopsOfAdding() {
        ran(3, "277 of a number", begin().codeLow(6, 9, "there"));
        ran(3, "277 of START", begin().codeLow(6, 3, "there"));
        ran(3, "277 of another block's PAGE", begin().codeLow(6, 5, "back"));
        ran(3, "277 of SP", begin().codeLow(6, 31, "there"));
        stops("ADD of PAGE without a fix", Word.addNumber(6, 5, 0));
        CodeLayout x = ran(1, "277 again", begin().codeLow(6, 5, "there").codeLow(5, 5, "there"));
        Due.is("START", x.kind(6), 1);
        Due.is("START", x.kind(5), 1);
        Prog p = begin().dataPage(6, 0, 8).dataLow(Word.addNumber(7, 6, 0), 277, 0, 8);
        Due.is("277 to data is a number", ran(1, "277 to data", p).kind(7), 0);
        Prog q = begin().dataLow(Word.addNumber(7, 3, 0), 277, 0, 8);
        ran(3, "277 to data of START", q);
    }

    private static void stopsOfMemory() {
        stops("a byte of CODE", Word.load(0, 6, 9, 16));
        stops("the last byte of CODE", Word.load(0, 6, 9, 23));
        goesOn("the byte behind", Word.load(0, 6, 9, 24));
        goesOn("the byte before", Word.load(0, 6, 9, 15));
        stops("a word of CODE", Word.load(2, 6, 9, 20));
        stops("a word with sign", Word.loadSigned(6, 9, 16));
        stops("to 31", Word.load(0, 31, 9, 16));
        stops("a long not at it", Word.addNumber(7, 9, 12), Word.load(3, 6, 7, 0));
        stops("a long behind its beginning", Word.addNumber(7, 9, 17), Word.load(3, 6, 7, 0));
        stops("a byte stored over", Word.store(0, 9, 9, 20));
        stops("a word stored over", Word.store(2, 31, 9, 16));
        stops("a long stored half over", Word.addNumber(7, 9, 20), Word.store(3, 9, 7, 0));
        stops("CODE stored as a word", Word.store(2, 3, 9, 32));
        stops("CODE stored as a byte", Word.store(0, 30, 9, 32));
        stops("CODE stored at no multiple of 8", Word.addNumber(7, 9, 4), Word.store(3, 3, 7, 0));
        stops("PAGE stored", Word.store(3, 5, 9, 0));
        stops("at START", Word.load(3, 6, 3, 0));
        stops("at RETURN", Word.store(3, 9, 30, 0));
        stops("by START", Word.loadAt(3, 6, 9, 3, false));
        goesOn("CODE over CODE", Word.store(3, 30, 9, 16), Word.load(3, 6, 9, 16));
        stops("CODE stored, then a byte of it", Word.store(3, 30, 9, 0), Word.load(0, 6, 9, 7));
        Due.is("RETURN loaded", ran(1, "", Word.store(3, 30, 9, 0), Word.load(3, 6, 9, 0)).kind(6), 2);
    }

    private static void stopsOfPairs() {
        stops("a pair half over CODE", Word.addNumber(7, 9, 4), Word.loadPair(2, 6, 7, 7, 0));
        stops("PAGE in a pair", Word.storePair(2, 9, 5, 9, 0));
        stops("CODE in a pair at no multiple of 8", Word.addNumber(7, 9, 36), Word.storePair(2, 9, 3, 7, 0));
        stops("a pair at CODE", Word.loadPair(1, 6, 7, 3, 8));
        CodeLayout x = ran(3, "a pair that stops", Word.addNumber(7, 9, 4), Word.loadPair(1, 6, 8, 7, 16));
        Due.is("n has not changed", x.register(1, 7), begin().dataAddress(0) + 4);
        Due.is("nothing was loaded", x.register(1, 6), 0);
        x = ran(3, "a store that stops", Word.movz(6, 9, 0), Word.storePair(2, 6, 5, 9, 0));
        Due.is("nothing was stored", x.memory(1, begin().dataAddress(0)), 0);
        x = ran(1, "a pair with CODE", Word.loadPair(2, 6, 7, 9, 8));
        Due.is("a number", x.kind(6), 0);
        Due.is("START", x.kind(7), 1);
    }

    private static void at(String what, int outcome, long address, int w) {
        ran(outcome, what, begin().number(6, address).put(w));
    }

    private static void stopsOfAddresses() {
        Prog p = end(begin().number(6, 196608).put(0));
        long text = p.textAddress();
        long behind = text + 4L * p.words.size();
        at("a load of the TEXT", 3, text, Word.load(0, 7, 6, 0));
        at("its last byte", 3, behind - 1, Word.load(0, 7, 6, 0));
        at("behind it", 2, behind, Word.load(0, 7, 6, 0));
        at("with the last of its bytes", 3, text - 3, Word.load(2, 7, 6, 0));
        at("before it", 2, text - 4, Word.load(2, 7, 6, 0));
        at("a store", 3, text, Word.store(3, 7, 6, 0));
        at("a pair's second", 3, text - 8, Word.loadPair(2, 7, 8, 6, 0));
        at("BR by a number", 3, text, Word.br(6));
        at("BLR by a number", 3, text + 8, Word.blr(6));
        at("RET by a number", 3, behind - 4, Word.ret(6));
        at("BR to no multiple of 4", 3, text + 1, Word.br(6));
        at("BR to three bytes before", 3, text - 3, Word.br(6));
        at("BR to four bytes before", 2, text - 4, Word.br(6));
        at("BR behind", 2, behind, Word.br(6));
        at("BR to the last byte", 3, behind - 1, Word.br(6));
        at("BR to -1", 2, -1, Word.br(6));
        at("a load at -1", 2, -1, Word.load(3, 7, 6, 0));
    }

    private static void stopsOfCalls() {
        stops("CODE in X0", Word.copy(0, 3), Word.CALL);
        stops("CODE in X1", Word.copy(1, 30), Word.CALL);
        stops("CODE in X2", Word.copy(2, 3), Word.CALL);
        stops("CODE in X8", Word.copy(8, 3), Word.CALL);
        goesOn("CODE in X7", Word.copy(7, 3), Word.CALL);
        int[] tell = {Word.movz(8, 64, 0), Word.addNumber(1, 9, 0), Word.movz(2, 17, 0), Word.CALL};
        stops("a text with a byte of CODE", tell);
        tell[2] = Word.movz(2, 16, 0);
        goesOn("a text before it", tell);
        tell[1] = Word.addNumber(1, 9, 23);
        stops("a text with its last byte", tell);
        tell[1] = Word.addNumber(1, 9, 24);
        goesOn("a text behind it", tell);
        tell[2] = Word.movz(2, 0, 0);
        tell[1] = Word.addNumber(1, 9, 16);
        goesOn("no bytes", tell);
        tell[2] = Word.movz(2, 4097, 0);
        goesOn("too many bytes are no text", tell);
        tell[0] = Word.movz(8, 65, 0);
        goesOn("another call", tell);
        long text = begin().textAddress();
        ran(3, "a text of the TEXT", begin().number(1, text - 1).put(Word.movz(2, 2, 0), Word.movz(8, 64, 0),
            Word.CALL));
        ran(2, "a text before the TEXT", begin().number(1, text - 2).put(Word.movz(2, 2, 0), Word.movz(8, 64, 0),
            Word.CALL));
    }

    /** CODE at a segment's end, and far in a text. */
    private static void codeAtTheEnd() {
        Prog p = new Prog();
        p.data(6, 400);
        p.function("f").dataAddress(1, 0, 0).put(Word.movz(2, 393, 0), Word.movz(8, 64, 0), Word.CALL);
        p.exit().label("stay").b("stay").pointer(0, 392, "stay");
        CodeLayout x = Feeder.read(p.file(), 1);
        Due.is("a text with the first byte of the last long", x.run(1, 9), 3);
        Due.is("run 0", x.run(0, 9), 1);
        Prog q = new Prog();
        q.data(6, 400);
        q.function("f").dataAddress(1, 0, 0).put(Word.movz(2, 392, 0), Word.movz(8, 64, 0), Word.CALL);
        q.put(Word.movz(3, 396, 0), Word.loadAt(0, 4, 1, 3, false));
        q.exit().label("stay").b("stay").pointer(0, 392, "stay");
        CodeLayout y = Feeder.read(q.file(), 1);
        Due.is("a byte of the last long", y.run(1, 9), 3);
        Due.is("the text before it was told", y.told(1, 4), 392);
    }

    private static void stopsBeforeFaults() {
        Prog p = begin();
        long fixed = p.dataAddress(1);
        at("a byte stored over CODE where nothing may be written", 3, fixed + 8, Word.store(0, 9, 6, 0));
        at("a number there", 2, fixed, Word.store(0, 9, 6, 0));
        at("CODE stored nowhere at no multiple of 8", 3, 12, Word.store(3, 3, 6, 0));
        at("CODE stored nowhere", 2, 16, Word.store(3, 3, 6, 0));
        at("CODE stored where nothing may be written", 2, fixed, Word.store(3, 3, 6, 0));
        at("a pair whose first faults and whose second stops", 3, fixed - 4, Word.loadPair(2, 7, 8, 6, 0));
        Prog q = begin();
        q.number(1, fixed - 1).put(Word.movz(2, 100, 0), Word.movz(8, 64, 0), Word.CALL);
        ran(3, "a text that would fault too", q);
    }

    private static void newTextCounts() {
        Prog p = end(begin().number(6, 196608 + 4096).put(Word.load(0, 7, 6, 0)));
        CodeLayout x = Feeder.read(p.file(), 2);
        Due.is("behind the old TEXT", x.run(1, 100), 2);
        x.lay(4, 65536);
        Due.is("in the new TEXT", x.run(1, 100), 3);
        Due.is("run 0", x.run(0, 100), 2);
        Due.is("run 2", x.run(2, 100), 1);
        x.lay(4, 4);
        Due.is("behind both", x.run(1, 100), 2);
    }

    private static void chosen() {
        Due.is("START chosen", ran(1, "n", Word.choose(6, 3, 9, Word.NE)).kind(6), 1);
        Due.is("RETURN chosen", ran(1, "m", Word.choose(6, 9, 30, Word.EQ)).kind(6), 2);
        Due.is("a number chosen", ran(1, "the other is CODE", Word.choose(6, 9, 5, Word.NE)).kind(6), 0);
        stops("PAGE chosen", Word.choose(6, 5, 9, Word.NE));
        stops("of words", Word.narrow(Word.choose(6, 3, 9, Word.NE)));
        stops("m with bit 10", Word.chooseMore(6, 9, 3, Word.EQ));
        stops("n with bit 10", Word.chooseMore(6, 3, 9, Word.NE));
        stops("of words, to 31", Word.narrow(Word.choose(31, 3, 9, Word.NE)));
        goesOn("to 31", Word.choose(31, 3, 9, Word.NE));
        goesOn("the other one of words", Word.narrow(Word.choose(6, 9, 3, Word.NE)));
    }

    private static void stackPointer() {
        CodeLayout x = ran(1, "SP as START", begin().codeLow(31, 5, "there"));
        Due.is("kind(31)", x.kind(31), 1);
        Due.is("register(1, 31)", x.register(1, 31), x.register(1, 3));
        ran(3, "SP as START used", begin().codeLow(31, 5, "there").put(Word.load(3, 6, 31, 0)));
        ran(3, "SP as START added", begin().codeLow(31, 5, "there").put(Word.addNumber(6, 31, 0)));
        ran(3, "SP as START of a pair", begin().codeLow(31, 5, "there").put(Word.storePair(3, 1, 2, 31, -16)));
        Due.is("31 as 0", ran(1, "", begin().codeLow(31, 5, "there").put(Word.add(6, 31, 31))).kind(6), 0);
        CodeLayout y = ran(1, "SP a number again", begin().codeLow(31, 5, "there").put(Word.addNumber(31, 9, 0)));
        Due.is("kind(31)", y.kind(31), 0);
    }

    private static void keptInMemory() {
        Prog p = end(begin().put(Word.storePair(3, 3, 30, 31, -32), Word.store(3, 9, 31, 16)));
        long data = p.dataAddress(0);
        CodeLayout x = Feeder.read(p.file(), 2);
        x.edge(p.textAddress() + 4, p.address("g"), 3);
        x.lay(64, 4096);
        Due.is("run(1)", x.run(1, 100), 1);
        x.run(2, 100);
        Due.is("a pointer", x.keeps(data + 16), 1);
        Due.is("its new address", x.newest(data + 16), x.moved(p.address("there")));
        Due.is("START on the stack", x.keeps(STACK - 32), 1);
        Due.is("RETURN on the stack", x.keeps(STACK - 24), 2);
        Due.is("its new address", x.newest(STACK - 24), x.newer(30));
        Due.is("a number", x.keeps(STACK - 16), 0);
        Due.is("its new address", x.newest(STACK - 16), 0);
        Due.is("what is 0", x.keeps(data), 0);
        Due.is("in what may not be written", x.keeps(p.dataAddress(1) + 8), 1);
        Due.is("its new address", x.newest(p.dataAddress(1) + 8), x.moved(p.address("back")));
        Due.is("no multiple of 8", x.keeps(data + 17), -1);
        Due.is("its new address", x.newest(data + 17), 0);
        Due.is("beyond", x.keeps(STACK), -1);
        Due.is("behind the segment", x.keeps(data + 64), -1);
        Due.is("before the segment", x.keeps(data - 8), -1);
        Due.is("the TEXT", x.keeps(p.textAddress() + 7 & ~7L), -1);
        Due.is("keeps(-8)", x.keeps(-8), -1);
        Due.is("newest(-8)", x.newest(-8), 0);
        for (int i = 0; i < 8; i++) {
            Due.is("run 1 has the old address", x.memory(1, STACK - 32 + i), (int) (p.address("there") >> 8 * i & 255));
            Due.is("run 2 the new one", x.memory(2, STACK - 32 + i), (int) (x.newest(STACK - 32) >> 8 * i & 255));
        }
        CodeLayout y = ran(1, "a number over a pointer", Word.store(3, 9, 9, 16));
        Due.is("is a number", y.keeps(data + 16), 0);
        CodeLayout z = ran(1, "what was not run is as in the file");
        Due.is("a pointer", z.keeps(data + 16), 1);
        Due.is("nothing laid", z.newest(data + 16), end(begin()).address("there"));
    }

    /** The condition stands where others have a register: X3 and X4 are START, X5 PAGE. */
    private static void conditionsUseNoRegister() {
        for (int condition = 3; condition < 6; condition++) {
            ran(1, "B.cond " + condition, begin().bcond(condition, "on").label("on"));
        }
        for (int d = 3; d < 6; d++) {
            ran(3, "CBZ " + d, begin().cbz(d, "on").label("on"));
            ran(3, "CBNZ " + d, begin().cbnz(d, "on").label("on"));
            ran(3, "CBZ of a word " + d, begin().cbzWord(d, "on").label("on"));
            ran(3, "TBZ " + d, begin().tbz(d, 0, "on").label("on"));
            ran(3, "TBNZ " + d, begin().tbnz(d, 63, "on").label("on"));
        }
    }

    /** A long with a fix of TYPE 257 is a number if its TARGET is not in the TEXT. */
    private static void pointersToData() {
        Prog p = begin().pointerToData(0, 24, 0, 40).pointerToData(1, 0, 1, 8);
        p.put(Word.load(3, 6, 9, 24), Word.load(0, 7, 9, 24), Word.addNumber(11, 6, 4), Word.store(3, 6, 6, 8));
        CodeLayout x = ran(1, "a pointer to data", p);
        long data = p.dataAddress(0);
        Due.is("what it is", x.kind(6), 0);
        Due.is("its number", x.register(1, 6), data + 40);
        Due.is("newer()", x.newer(6), data + 40);
        Due.is("its lowest byte", x.register(1, 7), data + 40 & 255);
        Due.is("four more", x.register(1, 11), data + 44);
        Due.is("keeps()", x.keeps(data + 24), 0);
        Due.is("newest()", x.newest(data + 24), 0);
        Due.is("kept where it goes", x.keeps(data + 48), 0);
        Due.is("in the other segment", x.keeps(p.dataAddress(1)), 0);
        Due.is("beside a pointer to the TEXT", x.keeps(p.dataAddress(1) + 8), 1);
    }

    /** Of a load or store by a number bits 16 to 20 are the number's: here they are those of registers with CODE. */
    private static void bitsThatAreNoRegister() {
        for (int k : new int[] {3, 4, 5, 30}) {
            int number = k << 6;
            goesOn("a load", Word.subNumber(11, 9, number), Word.load(0, 6, 11, number));
            goesOn("a store", Word.subNumber(11, 9, number), Word.store(0, 6, 11, number));
            goesOn("ADD by a number", Word.addNumber(6, 9, number));
            goesOn("MOVE", Word.movz(6, k << 11 | k, 0), Word.movk(6, k << 11 | k, 1), Word.movn(6, k << 11 | k, 2));
        }
        // A pair's number is in bits 15 to 21, its a in bits 10 to 14.
        goesOn("a pair", Word.addNumber(11, 9, 32), Word.storePair(2, 6, 7, 11, -24 - 8));
        goesOn("a pair behind", Word.addNumber(11, 9, 8), Word.loadPair(2, 6, 7, 11, 3 * 8 + 8));
        goesOn("CHOOSE", Word.choose(6, 9, 9, 3), Word.choose(6, 9, 9, 5));
    }

    /** Whatever a register was, it is a number behind a load of less than a long that is CODE. */
    private static void loadedOverCode() {
        for (int k : new int[] {3, 4, 5, 30}) {
            int[] words = {Word.load(0, k, 9, 1), Word.load(2, k, 9, 0), Word.load(3, k, 9, 0), Word.load(3, k, 9, 24),
                Word.loadSigned(k, 9, 4), Word.loadAt(0, k, 9, 31, false), Word.loadPair(2, k, 6, 9, 0),
                Word.loadPair(2, 6, k, 9, 24), Word.movz(k, 7, 0), Word.movn(k, 7, 0), Word.add(k, 9, 9),
                Word.and(k, 9, 9), Word.madd(k, 9, 9, 9), Word.two(k, 9, 9, 2), Word.choose(k, 9, 9, 0),
                Word.addNumber(k, 9, 1), Word.narrow(Word.copy(k, 9)), Word.copy(k, 31)};
            for (int w : words) {
                Due.is("a number over CODE", ran(1, "over CODE", w).kind(k), 0);
            }
            // Three bytes behind data the long is made of two that are no CODE.
            CodeLayout x = ran(1, "not at a multiple of 8", Word.addNumber(11, 9, 3), Word.load(3, k, 11, 24));
            Due.is("a number", x.kind(k), 0);
        }
        CodeLayout y = ran(1, "X31 is 0 though SP is START", begin().codeLow(31, 5, "there")
            .put(Word.store(3, 31, 9, 0), Word.storePair(2, 31, 31, 9, 32)));
        Due.is("SP", y.kind(31), 1);
        long data = begin().dataAddress(0);
        for (int at : new int[] {0, 32, 40}) {
            Due.is("what was stored", y.keeps(data + at), 0);
            Due.is("0", y.memory(1, data + at), 0);
        }
    }
}
