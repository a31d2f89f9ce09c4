/** Promises 21 to 23, 26, 27, 30 and 31: outcomes, faults, going astray, visits, and what runs leave. */
public final class RunTest {
    private static final long STACK = 2147483648L;

    public static void main(String[] args) {
        visits();
        manyWords();
        faultsOfLoads();
        faultsOfStores();
        faultsOfPairs();
        faultsOfFetching();
        astray();
        astrayInTheNewFile();
        behindCalls();
        returnsInTheNewFile();
        texts();
        manyCalls();
        memories();
        textLoaded();
        fourSegments();
        manyPages();
        layForgets();
        Due.end("RunTest");
    }

    private static Prog begin() {
        Prog p = new Prog();
        p.data(6, 40);
        p.data(4, 24);
        for (int i = 0; i < 24; i++) {
            p.data.get(1)[i] = (byte) (200 + i);
        }
        return p.function("f");
    }

    private static CodeLayout read(Prog p) {
        return Feeder.read(p.file(), p.functionNames.size());
    }

    private static void visits() {
        Prog p = begin();
        p.number(1, 3).label("loop").put(Word.subNumber(1, 1, 1)).cbnz(1, "loop").exit().label("stay").b("stay");
        CodeLayout x = read(p);
        for (int visits = 0; visits <= 6; visits++) {
            Due.is("run(0, " + visits + ")", x.run(0, visits), visits < 5 ? 0 : 1);
            Due.is("visits", x.told(0, 0), Math.min(visits, 5));
            Due.is("outcome", x.told(0, 5), visits < 5 ? 0 : 1);
            int[] done = {0, 1, 3, 5, 7, 9, 9};
            Due.is("instructions", x.told(0, 1), done[visits]);
        }
        int[] due = {0, 1, 1, 1, 2, -1};
        for (int k = 0; k < due.length; k++) {
            Due.is("visit(0, " + k + ")", x.visit(0, k), due[k]);
        }
        Due.is("visit(0, -1)", x.visit(0, -1), -1);
        x.run(0, 2);
        Due.is("visit(0, 1)", x.visit(0, 1), 1);
        Due.is("visit(0, 2) of fewer", x.visit(0, 2), -1);
        Due.is("register", x.register(0, 1), 2);
        Prog q = begin().label("stay").b("stay");
        CodeLayout y = read(q);
        for (int which = 0; which < 2; which++) {
            Due.is("without end", y.run(which, 4096), 0);
            Due.is("all visits", y.told(which, 0), 4096);
            Due.is("instructions", y.told(which, 1), 4096);
            Due.is("the last visit", y.visit(which, 4095), 0);
            Due.is("beyond", y.visit(which, 4096), -1);
        }
    }

    private static void manyWords() {
        for (int words : new int[] {99, 100, 101, 113, 4999, 5000, 5001}) {
            // 113 times 177 is 20001.
            Prog p = begin();
            for (int i = 1; i < words; i++) {
                p.put(Word.NOP);
            }
            p.b("f");
            CodeLayout x = read(p);
            x.lay(4, 4);
            for (int which = 0; which < 3; which++) {
                Due.is("outcome", x.run(which, 4096), 0);
                Due.is("visits of " + words + " words", x.told(which, 0), 20000 / words);
                Due.is("instructions", x.told(which, 1), 20000 / words * words);
            }
        }
    }

    /** What faults is not counted, and leaves all as it was. */
    private static void faults(String what, int outcome, long at, int... words) {
        Prog p = begin();
        p.put(Word.movz(4, 11, 0), Word.movz(5, 12, 0)).number(1, at);
        int before = p.words.size();
        p.put(words).exit().label("stay").b("stay");
        CodeLayout x = read(p);
        x.lay(64, 64);
        for (int which = 0; which < 3; which += 2) {
            Due.is(what, x.run(which, 100), outcome);
            if (outcome == 2) {
                Due.is(what + ": instructions", x.told(which, 1), before);
                Due.is(what + ": X4", x.register(which, 4), 11);
                Due.is(what + ": X1", x.register(which, 1), at);
                Due.is(what + ": outcome", x.told(which, 5), 2);
            }
        }
    }

    private static void faultsOfLoads() {
        Prog p = begin();
        long data = p.dataAddress(0);
        long fixed = p.dataAddress(1);
        long text = p.textAddress();
        faults("the last long", 1, data + 32, Word.load(3, 4, 1, 0));
        faults("over the end", 2, data + 33, Word.load(3, 4, 1, 0));
        faults("behind the end", 2, data + 40, Word.load(0, 4, 1, 0));
        faults("the last byte", 1, data + 39, Word.load(0, 4, 1, 0));
        faults("before the first", 2, data - 1, Word.load(0, 4, 1, 0));
        faults("over the beginning", 2, data - 1, Word.load(2, 4, 1, 0));
        faults("at 0", 2, 0, Word.load(0, 4, 1, 0));
        faults("at -8", 2, -8, Word.load(3, 4, 1, 0));
        faults("at -1, over the greatest", 2, -1, Word.load(3, 4, 1, 0));
        faults("what may not be written", 1, fixed, Word.load(3, 4, 1, 16));
        faults("the TEXT", 1, text, Word.load(2, 4, 1, 0));
        faults("the TEXT's bytes", 1, text + 3, Word.load(3, 4, 1, 0));
        faults("before the TEXT", 2, text - 1, Word.load(2, 4, 1, 0));
        faults("the stack's first byte", 1, STACK - 65536, Word.load(3, 4, 1, 0));
        faults("before the stack", 2, STACK - 65537, Word.load(3, 4, 1, 0));
        faults("the stack's last long", 1, STACK - 8, Word.load(3, 4, 1, 0));
        faults("over the stack's end", 2, STACK - 4, Word.load(3, 4, 1, 0));
        faults("the stack's end", 2, STACK, Word.load(0, 4, 1, 0));
        faults("to 31", 2, 0, Word.load(3, 31, 1, 0));
        faults("a word with sign", 2, data + 37, Word.loadSigned(4, 1, 0));
    }

    private static void faultsOfStores() {
        Prog p = begin();
        long data = p.dataAddress(0);
        faults("a store", 1, data + 32, Word.store(3, 4, 1, 0));
        faults("over the end", 2, data + 36, Word.store(3, 4, 1, 0));
        faults("where nothing may be written", 2, p.dataAddress(1), Word.store(0, 4, 1, 0));
        faults("into the TEXT", 2, p.textAddress(), Word.store(2, 4, 1, 0));
        faults("into the stack", 1, STACK - 1, Word.store(0, 4, 1, 0));
        faults("beyond the stack", 2, STACK - 1, Word.store(2, 4, 1, 0));
        faults("of 31", 2, 8, Word.store(0, 31, 1, 0));
    }

    private static void faultsOfPairs() {
        Prog p = begin();
        long data = p.dataAddress(0);
        faults("a pair", 1, data + 24, Word.storePair(2, 4, 5, 1, 0));
        faults("its second over the end", 2, data + 32, Word.storePair(1, 4, 5, 1, 8));
        faults("its first before", 2, data, Word.loadPair(3, 4, 5, 1, -8));
        faults("n does not change", 2, data + 32, Word.loadPair(1, 4, 5, 1, 8));
        faults("to read alone", 2, p.dataAddress(1), Word.storePair(1, 4, 5, 1, 8));
        faults("to read", 1, p.dataAddress(1), Word.loadPair(1, 4, 5, 1, 8));
        Prog q = begin();
        q.put(Word.movn(4, 0, 0)).number(1, data + 32).put(Word.storePair(2, 4, 5, 1, 0)).label("stay").b("stay");
        CodeLayout x = read(q);
        Due.is("a pair that faults", x.run(0, 10), 2);
        Due.is("its first is not stored", x.memory(0, data + 32), 0);
    }

    /** BR, BLR or RET to an address; the new file is as the old one. */
    private static CodeLayout leads(String what, int outcome, long to, int w, int done) {
        Prog p = begin();
        p.put(Word.movz(30, 7, 0)).number(1, to);
        int before = p.words.size();
        p.put(w).label("stay").b("stay");
        CodeLayout x = read(p);
        Due.is(what + ": lay()", x.lay(4, 4), 4 * p.words.size());
        for (int which = 0; which < 3; which += 2) {
            Due.is(what, x.run(which, 1), outcome);
            Due.is(what + ": outcome", x.told(which, 5), outcome);
            Due.is(what + ": visits", x.told(which, 0), 1);
            Due.is(what + ": instructions", x.told(which, 1), before + done);
            boolean links = w == Word.blr(1) && done == 1;
            Due.is(what + ": X30", x.register(which, 30), links ? p.textAddress() + 4 * before + 4 : 7);
        }
        return x;
    }

    /** Beyond the TEXT BR, BLR and RET are done; the word that they lead to is not fetched. */
    private static void fetchFaults(String what, long to, int w) {
        leads(what, 2, to, w, 1);
    }

    private static void faultsOfFetching() {
        Prog p = begin();
        long text = p.textAddress();
        fetchFaults("BR to 0", 0, Word.br(1));
        fetchFaults("RET to data", p.dataAddress(0), Word.ret(1));
        fetchFaults("BLR to the stack", STACK - 8, Word.blr(1));
        fetchFaults("BR to -4", -4, Word.br(1));
        fetchFaults("BR before the TEXT", text - 4, Word.br(1));
        fetchFaults("BLR before the TEXT", text - 4, Word.blr(1));
        fetchFaults("BR before the TEXT, no multiple of 4", text - 1, Word.br(1));
        fetchFaults("BR to 31", 5, Word.br(31));
        fetchFaults("RET to the TEXT's end", text + 4 * 5, Word.ret(1));
        fetchFaults("BR behind the TEXT's end, no multiple of 4", text + 4 * 5 + 1, Word.br(1));
        fetchFaults("BR over the greatest", -1, Word.br(1));
        Prog q = begin();
        q.put(Word.blr(2)).label("stay").b("stay");
        CodeLayout x = read(q);
        Due.is("BLR to 0", x.run(0, 9), 2);
        Due.is("X30", x.register(0, 30), text + 4);
        Due.is("run 1", x.run(1, 9), 2);
        Due.is("X30 is RETURN", x.kind(30), 2);
        Due.is("visits", x.told(0, 0), 1);
    }

    /** What is astray is not done: it is not counted, and BLR leaves X30 as it was. */
    private static void goesAstray(String what, long to) {
        for (int w : new int[] {Word.br(1), Word.blr(1), Word.ret(1)}) {
            CodeLayout x = leads(what, 4, to, w, 0);
            Due.is(what + ": run 1", x.run(1, 9), 3);
        }
    }

    private static void astray() {
        long text = begin().textAddress();
        goesAstray("into a block", text + 4);
        goesAstray("to itself", text + 12);
        for (int k = 1; k < 4; k++) {
            goesAstray("to no multiple of 4, in a block's first word", text + k);
            goesAstray("to no multiple of 4, inside a block", text + 4 + k);
            goesAstray("to no multiple of 4, in the last word", text + 16 + k);
        }
        Prog p = begin();
        p.put(Word.movz(30, (int) text + 4 & 0xFFFF, 0), Word.movk(30, (int) (text + 4 >> 16), 1), Word.blr(30));
        p.label("stay").b("stay");
        CodeLayout x = read(p);
        Due.is("BLR of X30", x.run(0, 9), 4);
        Due.is("X30 stays", x.register(0, 30), text + 4);
        Due.is("instructions", x.told(0, 1), 2);
        Prog r = begin();
        r.number(1, text + 12).put(Word.br(1), Word.NOP, Word.NOP).label("stay").b("stay");
        CodeLayout y = read(r);
        Due.is("to a block's first word", y.run(0, 9), 0);
        Due.is("visits", y.told(0, 0), 9);
        Due.is("no more visits, and not astray", y.run(0, 1), 0);
        Due.is("BR is done", y.told(0, 1), 3);
    }

    /** Where the rows lie apart, what was a block's first word may be none, and the TEXT is longer. */
    private static void astrayInTheNewFile() {
        long text = begin().textAddress();
        for (int w : new int[] {Word.br(1), Word.blr(1), Word.ret(1)}) {
            astrayApart(w, text, 4);
            astrayApart(w, text + 1, 4);
            astrayApart(w, text + 4, 4);
            astrayApart(w, text + 20, 2);
            astrayApart(w, text + 22, 2);
            astrayApart(w, 65536 * 4 - 4, 2);
            astrayApart(w, 65536 * 4 + 4, 2);
            astrayApart(w, 65536 * 4 + 15, 2);
        }
    }

    /** The block of the end is hot, the one of the entry cold. */
    private static void astrayApart(int w, long to, int ofOldFile) {
        Prog p = begin();
        p.put(Word.movz(30, 7, 0)).number(1, to).put(w).label("stay").b("stay");
        CodeLayout x = read(p);
        x.edge(p.address("stay"), p.address("stay"), 1);
        Due.is("lay()", x.lay(4, 65536), 65536 * 4 + 16 + (w == Word.blr(1) ? 4 : 0) - p.textAddress());
        long due = to == p.textAddress() ? 0 : 4;
        Due.is("run 2 to " + to, x.run(2, 2), due);
        Due.is("visits", x.told(2, 0), due == 0 ? 2 : 1);
        Due.is("instructions", x.told(2, 1), due == 0 ? 5 : 3);
        Due.is("X30", x.register(2, 30), due == 0 && w == Word.blr(1) ? 65536 * 4 + 16 : 7);
        Due.is("run 0 to " + to, x.run(0, 1), to == p.textAddress() ? 0 : ofOldFile);
        Due.is("run 1 to " + to, x.run(1, 1), 3);
    }

    /** Behind BL the new file has B to NEXT, if that is elsewhere: to return there is not to go astray. */
    private static void returnsInTheNewFile() {
        Prog p = begin();
        p.bl("g").label("next").put(Word.addNumber(0, 0, 1)).exit().label("stay").b("stay");
        p.function("g").put(Word.movz(0, 40, 0), Word.ret(30));
        CodeLayout x = read(p);
        x.edge(p.textAddress(), p.address("g"), 5);
        x.lay(64, 1024);
        Due.is("BL's NEXT is cold", x.laid(4), 1);
        Due.is("run 2", x.run(2, 9), 1);
        Due.is("X0", x.register(2, 0), 41);
        Due.is("X30 is behind BL", x.register(2, 30), p.textAddress() + 4);
        Due.is("one instruction more", x.told(2, 1), 7);
        Due.is("visits", x.told(2, 0), 3);
        x.run(1, 9);
        Due.is("run 1", x.told(1, 1), 6);
        Due.is("newer(30)", x.newer(30), p.textAddress() + 4);
        Due.holds("the NEXT's new address is another", x.moved(p.address("next")) > p.textAddress() + 16);
    }

    /** To go right behind BL is not astray, though no block begins there in the new file; farther behind it is. */
    private static void behindCalls() {
        for (int farther = 0; farther < 3; farther++) {
            Prog p = begin();
            p.bl("g").label("next").put(Word.NOP).exit().label("stay").b("stay");
            p.function("g").put(Word.addNumber(30, 30, farther), Word.ret(30));
            CodeLayout x = read(p);
            x.edge(p.textAddress(), p.address("g"), 5);
            x.lay(64, 1024);
            for (int which = 0; which < 3; which += 2) {
                Due.is("RET behind BL", x.run(which, 9), farther == 0 ? 1 : 4);
                Due.is("visits", x.told(which, 0), farther == 0 ? 3 : 2);
                Due.is("instructions", x.told(which, 1), farther > 0 ? 2 : which == 0 ? 6 : 7);
            }
        }
    }

    private static CodeLayout tell(long from, long many) {
        Prog p = begin();
        for (int i = 0; i < 40; i++) {
            p.data.get(0)[i] = (byte) (255 - i);
        }
        p.number(1, from).number(2, many).put(Word.movz(8, 64, 0), Word.CALL).exit().label("stay").b("stay");
        CodeLayout x = read(p);
        x.run(0, 9);
        return x;
    }

    private static void texts() {
        Prog p = begin();
        long data = p.dataAddress(0);
        CodeLayout x = tell(data + 1, 39);
        Due.is("outcome", x.told(0, 5), 1);
        Due.is("X0", x.register(0, 0), 39);
        Due.is("bytes told", x.told(0, 4), 39);
        Due.is("the first", x.text(0, 0), 254);
        Due.is("the last", x.text(0, 38), 216);
        Due.is("beyond", x.text(0, 39), -1);
        Due.is("text(0, -1)", x.text(0, -1), -1);
        Due.is("calls", x.told(0, 3), 2);
        Due.is("trace X2", x.trace(0, 0, 3), 39);
        Due.is("too many for the segment", tell(data + 1, 40).told(0, 5), 2);
        Due.is("one byte from nowhere", tell(7, 1).told(0, 5), 2);
        Due.is("then nothing is traced", tell(data + 1, 40).told(0, 3), 0);
        Due.is("nothing, from nowhere", tell(7, 0).told(0, 5), 1);
        Due.is("its X0", tell(7, 0).register(0, 0), 0);
        Due.is("its calls", tell(7, 0).told(0, 3), 2);
        Due.is("4096 of the stack", tell(STACK - 4096, 4096).register(0, 0), 4096);
        Due.is("4097 of the stack", tell(STACK - 5000, 4097).register(0, 0), -38);
        Due.is("-1 bytes", tell(data, -1).register(0, 0), -38);
        Due.is("-1 bytes told", tell(data, -1).told(0, 4), 0);
        Due.is("the TEXT", tell(p.textAddress(), 8).told(0, 5), 1);
        Due.is("the TEXT's bytes", tell(p.textAddress(), 8).told(0, 4), 8);
        Due.is("the TEXT's first byte", tell(p.textAddress(), 8).text(0, 0), Word.movz(1,
            (int) p.textAddress() & 0xFFFF, 0) & 255);
    }

    private static void manyCalls() {
        Prog p = begin();
        p.number(3, 260).number(8, 64).number(1, STACK - 100).put(Word.movz(2, 100, 0));
        p.label("loop").put(Word.CALL, Word.subNumber(3, 3, 1)).cbnz(3, "loop").exit().label("stay").b("stay");
        CodeLayout x = read(p);
        for (int which = 0; which < 2; which++) {
            Due.is("outcome", x.run(which, 4096), 1);
            Due.is("calls", x.told(which, 3), 261);
            Due.is("bytes", x.told(which, 4), 26000);
            Due.is("the call kept last", x.trace(which, 199, 0), 64);
            Due.is("none behind it", x.trace(which, 200, 0), 0);
            Due.is("the byte kept last", x.text(which, 16383), 0);
            Due.is("none behind it", x.text(which, 16384), -1);
        }
    }

    private static void memories() {
        Prog p = begin();
        long data = p.dataAddress(0);
        p.number(1, data + 8).number(2, 0x1234).put(Word.store(2, 2, 1, 0), Word.storePair(3, 2, 2, 31, -16)).exit();
        p.label("stay").b("stay");
        CodeLayout x = read(p);
        x.run(0, 9);
        Due.is("a byte stored", x.memory(0, data + 8), 0x34);
        Due.is("another", x.memory(0, data + 9), 0x12);
        Due.is("one as it was", x.memory(0, data), 0);
        Due.is("what may not be written", x.memory(0, p.dataAddress(1) + 3), 203);
        Due.is("the stack", x.memory(0, STACK - 16), 0x34);
        Due.is("the stack's last", x.memory(0, STACK - 1), 0);
        Due.is("the stack's first", x.memory(0, STACK - 65536), 0);
        Due.is("beyond the stack", x.memory(0, STACK), -1);
        Due.is("before the stack", x.memory(0, STACK - 65537), -1);
        Due.is("behind a segment", x.memory(0, data + 40), -1);
        Due.is("before a segment", x.memory(0, data - 1), -1);
        Due.is("the TEXT", x.memory(0, p.textAddress()), -1);
        Due.is("memory(0, -1)", x.memory(0, -1), -1);
        Due.is("another run", x.memory(1, data), -1);
        x.run(0, 0);
        Due.is("a new run begins with the file's bytes", x.memory(0, data + 8), 0);
        Due.is("and an empty stack", x.memory(0, STACK - 16), 0);
        Due.is("and SP", x.register(0, 31), STACK);
    }

    /** ADRP beyond the TEXT's first page. */
    private static void manyPages() {
        Prog p = begin();
        for (int i = 0; i < 1200; i++) {
            p.put(Word.NOP);
        }
        p.dataAddress(1, 0, 8).codeAddress(3, "stay").exit().label("stay").b("stay");
        CodeLayout x = read(p);
        x.lay(4, 8192);
        for (int which = 0; which < 3; which++) {
            Due.is("outcome", x.run(which, 9), 1);
            Due.is("data", x.register(which, 1), p.dataAddress(0) + 8);
            Due.is("code", x.register(which, 3), which == 2 ? x.moved(p.address("stay")) : p.address("stay"));
        }
    }

    /** As many segments as there may be, one right behind another. */
    private static void fourSegments() {
        Prog p = new Prog();
        p.data(6, 16);
        p.data(6, 24);
        p.data(6, 16);
        p.function("f").dataAddress(1, 0, 0).dataAddress(2, 1, 16).dataAddress(3, 2, 8).number(4, 0x77);
        p.put(Word.store(0, 4, 1, 15), Word.store(3, 4, 2, 0), Word.store(0, 4, 3, 7)).put(Word.load(3, 5, 2, 8));
        p.exit().label("stay").b("stay").pointer(2, 0, "stay");
        CodeLayout x = read(p);
        x.lay(4, 4096);
        for (int which = 0; which < 3; which++) {
            Due.is("a long behind the second segment", x.run(which, 9), 2);
            Due.is("first segment", x.memory(which, p.dataAddress(0) + 15), 0x77);
            Due.is("second segment", x.memory(which, p.dataAddress(1) + 16), 0x77);
            Due.is("third segment", x.memory(which, p.dataAddress(2) + 15), 0x77);
            Due.is("behind the second", x.memory(which, p.dataAddress(1) + 24), -1);
        }
        Due.is("a pointer in the third", x.keeps(p.dataAddress(2)), 1);
        Due.is("its new address", x.newest(p.dataAddress(2)), x.moved(p.address("stay")));
        Due.is("check()", x.check(), 0);
    }

    /** What the TEXT holds, and in the new file the bytes between the rows. */
    private static void textLoaded() {
        Prog p = begin();
        long text = p.textAddress();
        p.number(1, text).put(Word.load(3, 2, 1, 0), Word.addNumber(1, 1, 3), Word.load(3, 3, 1, 0));
        p.number(4, text + 512).put(Word.load(0, 5, 4, 0)).exit().label("stay").b("stay");
        Bytes file = new Bytes(p.file());
        CodeLayout x = read(p);
        Due.is("run 0 faults behind the TEXT", x.run(0, 9), 2);
        Due.is("words", x.register(0, 2), file.get(p.textOffset(), 8));
        Due.is("words not at it", x.register(0, 3), file.get(p.textOffset() + 3, 8));
        x.edge(p.address("stay"), p.address("stay"), 1);
        x.lay(4, 65536);
        Due.is("run 2 loads bytes between", x.run(2, 9), 1);
        Due.is("B and what is between", x.register(2, 2), (long) Prog.B);
        Due.is("not at it", x.register(2, 3), Prog.B >>> 24);
        Due.is("between", x.register(2, 5), 0);
    }

    private static void layForgets() {
        Prog p = begin().exit().label("stay").b("stay");
        CodeLayout x = read(p);
        x.run(0, 9);
        x.run(1, 9);
        Due.is("lay() refused", x.lay(3, 4), -1);
        Due.is("told(0, 5)", x.told(0, 5), 1);
        x.lay(4, 4);
        for (int which = 0; which < 3; which++) {
            Due.is("told()", x.told(which, 5), -14);
            Due.is("visit()", x.visit(which, 0), -1);
            Due.is("memory()", x.memory(which, STACK - 1), -1);
            Due.is("trace()", x.trace(which, 0, 0), 0);
            Due.is("register()", x.register(which, 8), 0);
        }
        Due.is("kind(0)", x.kind(0), -1);
        Due.is("keeps()", x.keeps(STACK - 8), -1);
        x.run(2, 9);
        Due.is("told(2, 5)", x.told(2, 5), 1);
        Due.is("told(0, 5)", x.told(0, 5), -14);
    }
}
