/** Terms 6 to 9: the edges of visits, of memory, of instructions and calls, and of what run 1 may do. */
public final class RunEdgesTest {
    private static final long STACK = 2147483648L;
    private static final long TOP = Long.MIN_VALUE;

    public static void main(String[] args) {
        numbersOfRuns();
        noVisits();
        justTheWords();
        wordsOfTheOldFile();
        runAgain();
        anotherFile();
        besideSegments();
        closeSegments();
        oddSegments();
        stackAndData();
        oddText();
        everyPlace();
        stackHoldsNumbers();
        addressesThatWrap();
        storesWithoutTheFlag();
        nothingIsDone();
        fetchedBeyond();
        emptyHotRow();
        behindEachCall();
        textsAtTheEdges();
        keptCalls();
        keptBytes();
        otherCalls();
        carriesAndOverflows();
        flagsOfWords();
        flagsStay();
        anyRegister();
        divisions();
        bitsTold();
        wordsThatAreZero();
        farthestNumbers();
        pagesOfAdrp();
        codesOfAnotherRun();
        firstFixIsAPointer();
        codeAtTheEdges();
        codeToAnyRegister();
        codeAsAnAddress();
        pageOfAnother();
        textRanges();
        newTextAlone();
        oldTextAlone();
        keptLongs();
        numbersOfQuestions();
        Due.end("RunEdgesTest");
    }

    private static Prog begin() {
        Prog p = new Prog();
        p.data(6, 64);
        p.data(4, 24);
        return p.function("f");
    }

    private static Prog end(Prog p) {
        return p.exit().label("stay").b("stay");
    }

    private static CodeLayout read(Prog p) {
        return Feeder.read(p.file(), p.functionNames.size());
    }

    /** Runs some words in all three runs. */
    private static CodeLayout runs(String what, int outcome, Prog begun) {
        CodeLayout x = read(end(begun));
        x.lay(64, 64);
        for (int which = 0; which < 3; which++) {
            Due.is(what + ": run(" + which + ")", x.run(which, 4096), outcome);
            Due.is(what + ": told(" + which + ", 5)", x.told(which, 5), outcome);
        }
        return x;
    }

    private static void register(String what, CodeLayout x, int k, long due) {
        for (int which = 0; which < 3; which++) {
            Due.is(what + ": register(" + which + ", " + k + ")", x.register(which, k), due);
        }
    }

    private static void numbersOfRuns() {
        CodeLayout x = read(end(begin()));
        int[] wrong = {-1, 3, 4, Integer.MIN_VALUE, Integer.MAX_VALUE};
        for (int which : wrong) {
            Due.is("run(" + which + ", 1)", x.run(which, 1), -1);
        }
        for (int visits : new int[] {-1, 4097, Integer.MIN_VALUE, Integer.MAX_VALUE}) {
            Due.is("run(0, " + visits + ")", x.run(0, visits), -1);
            Due.is("run(1, " + visits + ")", x.run(1, visits), -1);
            Due.is("run(2, " + visits + ") of nothing laid", x.run(2, visits), -14);
        }
        Due.is("none has run", x.told(0, 0), -14);
        Due.is("run(0, 4096)", x.run(0, 4096), 1);
        x.lay(4, 4);
        Due.is("run(2, 4097)", x.run(2, 4097), -1);
        Due.is("run(2, 4096)", x.run(2, 4096), 1);
    }

    private static void noVisits() {
        CodeLayout x = read(end(begin()));
        x.lay(4, 4);
        for (int which = 0; which < 3; which++) {
            Due.is("outcome", x.run(which, 0), 0);
            int[] due = {0, 0, 0, 0, 0, 0};
            for (int what = 0; what < 6; what++) {
                Due.is("told(" + which + ", " + what + ")", x.told(which, what), due[what]);
            }
            Due.is("visit()", x.visit(which, 0), -1);
            for (int k = 0; k < 31; k++) {
                Due.is("register()", x.register(which, k), 0);
            }
            Due.is("SP", x.register(which, 31), STACK);
        }
    }

    /** The block that makes it 20000 words is visited, the one that would make it 20001 is not. */
    private static void justTheWords() {
        for (int more = 0; more < 3; more++) {
            Prog p = begin().label("loop");
            for (int i = 1; i < 400; i++) {
                p.put(i == 1 ? Word.addNumber(1, 1, 1) : Word.NOP);
            }
            p.put(Word.subsNumber(2, 1, 49)).bcond(Word.NE, "loop");
            // 49 times 401 words are 19649; 351 are left.
            for (int i = 0; i < 349 + more; i++) {
                p.put(Word.NOP);
            }
            p.exit().label("stay").b("stay");
            CodeLayout x = read(p);
            x.lay(4, 4);
            for (int which = 0; which < 3; which++) {
                Due.is("outcome", x.run(which, 4096), more == 0 ? 1 : 0);
                Due.is("visits", x.told(which, 0), more == 0 ? 50 : 49);
                Due.is("instructions", x.told(which, 1), more == 0 ? 20000 : 19649);
                Due.is("visits asked for", x.run(which, 49), 0);
                Due.is("visits", x.told(which, 0), 49);
            }
        }
    }

    /** B put behind a block counts as an instruction, but not among the words of blocks. */
    private static void wordsOfTheOldFile() {
        Prog p = begin();
        p.label("one");
        for (int i = 0; i < 99; i++) {
            p.put(Word.NOP);
        }
        p.put(Word.blr(3)).label("two").b("one");
        p.function("g").put(Word.ret(30));
        p.entry = "start";
        p.function("s").label("start").codeAddress(3, "g").b("f");
        CodeLayout x = Feeder.read(p.file(), 3);
        x.edge(p.address("two") - 4, p.address("g"), 1);
        x.lay(64, 64);
        Due.is("one B put behind", x.laid(4), 1);
        for (int which = 0; which < 3; which++) {
            Due.is("outcome", x.run(which, 4096), 0);
            // 3 words, then 100, 1, 1 again and again: 196 times, and 5 left.
            Due.is("visits", x.told(which, 0), 1 + 3 * 196);
            Due.is("instructions", x.told(which, 1), 3 + 102 * 196 + (which == 2 ? 196 : 0));
        }
    }

    private static void runAgain() {
        Prog p = begin();
        p.put(Word.movz(5, 7, 0), Word.subs(31, 31, 31)).dataAddress(1, 0, 8).put(Word.store(3, 5, 1, 0));
        p.number(2, 8).put(Word.movz(8, 64, 0), Word.CALL).bl("g").label("back").put(Word.storePair(3, 30, 5, 31, -16));
        for (int i = 0; i < 1500; i++) {
            p.put(Word.NOP);
        }
        end(p).function("g").put(Word.ret(30));
        CodeLayout x = read(p);
        x.lay(4, 4);
        for (int round = 0; round < 20; round++) {
            for (int which = 0; which < 3; which++) {
                Due.is("outcome", x.run(which, 4096), 1);
                Due.is("visits", x.told(which, 0), 3);
                Due.is("calls", x.told(which, 3), 2);
                Due.is("bytes", x.told(which, 4), 8);
                Due.is("flags", x.told(which, 2), 6);
                Due.is("text", x.text(which, 0), 7);
                Due.is("trace of the first call", x.trace(which, 0, 0), 64);
                Due.is("X5", x.register(which, 5), 7);
            }
            Due.is("X30", x.kind(30), 2);
            Due.is("the stack", x.keeps(STACK - 16), 2);
            for (int which = 0; which < 3; which++) {
                Due.is("no visit", x.run(which, 0), 0);
                Due.is("no calls", x.told(which, 3), 0);
                Due.is("no bytes", x.told(which, 4), 0);
                Due.is("no text", x.text(which, 0), -1);
                Due.is("no trace", x.trace(which, 0, 0), 0);
                Due.is("no flags", x.told(which, 2), 0);
                Due.is("X5", x.register(which, 5), 0);
                Due.is("SP", x.register(which, 31), STACK);
                Due.is("memory", x.memory(which, p.dataAddress(0) + 8), 0);
                Due.is("the stack", x.memory(which, STACK - 8), 0);
            }
            Due.is("X30 is a number", x.kind(30), 0);
            Due.is("the stack has numbers", x.keeps(STACK - 16), 0);
        }
    }

    /** Another file has other segments. */
    private static void anotherFile() {
        Prog many = new Prog();
        many.data(6, 16);
        many.data(6, 16);
        many.data(6, 16);
        many.function("f").exit().label("stay").b("stay").pointer(0, 0, "stay");
        CodeLayout x = read(many);
        for (int which = 0; which < 2; which++) {
            x.run(which, 9);
            Due.is("a third segment", x.memory(which, many.dataAddress(2)), 0);
        }
        Prog none = new Prog();
        none.function("f").put(Word.movz(3, 9, 0), Word.storePair(3, 3, 3, 31, -16)).exit().label("stay").b("stay");
        Feeder.feed(x, none.file());
        Due.is("read()", x.read(), 1);
        x.lay(4, 4);
        for (int which = 0; which < 3; which++) {
            Due.is("run()", x.run(which, 9), 1);
            for (int i = 0; i < 3; i++) {
                Due.is("no data segment", x.memory(which, many.dataAddress(i)), -1);
            }
            Due.is("the stack", x.memory(which, STACK - 16), 9);
            Due.is("the stack's first byte", x.memory(which, STACK - 65536), 0);
        }
        Due.is("no long there", x.keeps(many.dataAddress(0)), -1);
        Due.is("a long of the stack", x.keeps(STACK - 16), 0);
    }

    /** A load of each width at each place around a segment's two ends. */
    private static void besideSegments() {
        for (int width : new int[] {0, 2, 3}) {
            int bytes = 1 << width;
            long first = begin().dataAddress(0);
            long end = first + 64;
            for (int i = -9; i < 10; i++) {
                long low = first + i;
                long high = end + i;
                boolean lowFits = i >= 0;
                boolean highFits = i + bytes <= 0;
                runs("a load", lowFits ? 1 : 2, begin().number(9, low).put(Word.load(width, 4, 9, 0)));
                runs("a load", highFits ? 1 : 2, begin().number(9, high).put(Word.load(width, 4, 9, 0)));
                runs("a store", lowFits ? 1 : 2, begin().number(9, low).put(Word.store(width, 4, 9, 0)));
                runs("a store", highFits ? 1 : 2, begin().number(9, high).put(Word.store(width, 4, 9, 0)));
                boolean stackFits = i + bytes <= 0;
                runs("the stack's end", stackFits ? 1 : 2, begin().number(9, STACK + i).put(Word.load(width, 4, 9, 0)));
                runs("the stack's beginning", lowFits ? 1 : 2, begin().number(9, STACK - 65536 + i)
                    .put(Word.store(width, 4, 9, 0)));
            }
        }
    }

    /** The second segment begins where the first one ends: what lies in both lies in none wholly. */
    private static CodeLayout close(int outcome, Prog begun, String what) {
        Prog p = end(begun);
        long address = p.dataAddress(0) + 64;
        Bytes file = new Bytes(p.file());
        file.put(Prog.segmentHead(1) + 16, 8, address).put(Prog.segmentHead(1) + 24, 8, address);
        file.put(p.sectionHead(2) + 16, 8, address);
        CodeLayout x = Feeder.read(file.bytes, 1);
        for (int which = 0; which < 2; which++) {
            Due.is(what, x.run(which, 9), outcome);
        }
        return x;
    }

    private static void closeSegments() {
        long at = begin().dataAddress(0) + 64;
        for (int i = 1; i < 8; i++) {
            close(2, begin().number(9, at - i).put(Word.load(3, 4, 9, 0)), "a long of both");
            close(i < 4 ? 2 : 1, begin().number(9, at - i).put(Word.load(2, 4, 9, 0)), "a word of both");
            close(2, begin().number(9, at - i).put(Word.loadPair(2, 4, 5, 9, 0)), "a pair whose first is of both");
            close(2, begin().number(9, at - 8 - i).put(Word.loadPair(2, 4, 5, 9, 0)), "whose second is of both");
        }
        close(1, begin().number(9, at - 8).put(Word.loadPair(2, 4, 5, 9, 0)), "a pair, each of one segment");
        close(2, begin().number(9, at - 8).put(Word.storePair(2, 4, 5, 9, 0)), "whose second may not be written");
        close(1, begin().number(9, at - 8).put(Word.load(3, 4, 9, 0)), "the last long of one");
        close(1, begin().number(9, at).put(Word.load(3, 4, 9, 0)), "the first long of the other");
        int[] tell = {Word.movz(8, 64, 0), Word.CALL};
        close(2, begin().number(1, at - 1).number(2, 2).put(tell), "a text of both");
        close(1, begin().number(1, at - 1).number(2, 1).put(tell), "a text of one");
        close(1, begin().number(1, at).number(2, 24).put(tell), "a text of the other");
        close(2, begin().number(1, at).number(2, 25).put(tell), "a byte more");
        close(1, begin().number(9, at - 8).put(Word.store(3, 4, 9, 0)), "a store into the one");
        close(2, begin().number(9, at).put(Word.store(3, 4, 9, 0)), "a store into the other, without the flag");
        CodeLayout x = close(1, begin(), "bytes");
        Due.is("the last byte of one", x.memory(0, at - 1), 0);
        Due.is("the first byte of the other", x.memory(0, at), 0);
        Due.is("behind both", x.memory(0, at + 24), -1);
    }

    /** Segments that begin and end inside a long. */
    private static void oddSegments() {
        for (int size = 41; size <= 48; size++) {
            Prog q = new Prog();
            q.data(6, size);
            CodeLayout y = read(end(q.function("f")));
            y.run(1, 9);
            Due.is("the last long of " + size, y.keeps(q.dataAddress(0) + 40), size == 48 ? 0 : -1);
            Due.is("the one before", y.keeps(q.dataAddress(0) + 32), 0);
            Due.is("the last byte", y.memory(1, q.dataAddress(0) + size - 1), 0);
            Due.is("behind it", y.memory(1, q.dataAddress(0) + size), -1);
        }
        Prog p = begin();
        p.number(9, p.dataAddress(0) + 3).put(Word.movn(4, 0, 0), Word.store(3, 4, 9, 0), Word.load(0, 5, 9, 52));
        p.put(Word.store(0, 4, 9, 52));
        end(p);
        Bytes file = new Bytes(p.file());
        int head = Prog.segmentHead(0);
        long address = p.dataAddress(0) + 3;
        for (int i = 0; i < 64; i++) {
            file.put(p.dataOffset(0) + i, 1, 100 + i);
        }
        file.put(head + 8, 8, p.dataOffset(0) + 3).put(head + 16, 8, address).put(head + 24, 8, address);
        file.put(head + 32, 8, 53).put(head + 40, 8, 53);
        file.put(p.sectionHead(1) + 16, 8, address).put(p.sectionHead(1) + 24, 8, p.dataOffset(0) + 3);
        file.put(p.sectionHead(1) + 32, 8, 53);
        CodeLayout x = Feeder.read(file.bytes, 1);
        x.lay(4, 4);
        for (int which = 0; which < 3; which++) {
            Due.is("run()", x.run(which, 9), 1);
            Due.is("before", x.memory(which, address - 1), -1);
            Due.is("behind", x.memory(which, address + 53), -1);
            for (int i = 0; i < 53; i++) {
                Due.is("byte " + i, x.memory(which, address + i), i < 8 || i == 52 ? 255 : 103 + i);
            }
            Due.is("the last byte", x.register(which, 5), 155);
        }
        Due.is("a long begun before", x.keeps(address - 3), -1);
        Due.is("the first whole one", x.keeps(address + 5), 0);
        Due.is("the last whole one", x.keeps(address + 37), 0);
        Due.is("a long that ends behind", x.keeps(address + 45 + 8), -1);
        for (int i = 46; i < 53; i++) {
            Due.is("no whole long", x.keeps(address + i), -1);
        }
    }

    /** The stack's lowest bytes are no bytes of the segments. */
    private static void stackAndData() {
        Prog p = begin();
        p.number(9, p.dataAddress(0)).number(10, STACK - 65536).put(Word.movn(4, 0, 0), Word.movz(5, 0x5555, 0));
        for (int i = 0; i < 64; i += 8) {
            p.put(Word.store(3, 4, 9, i), Word.store(3, 5, 10, i));
        }
        CodeLayout x = runs("both", 1, p);
        for (int which = 0; which < 3; which++) {
            for (int i = 0; i < 64; i++) {
                Due.is("data", x.memory(which, p.dataAddress(0) + i), 255);
                Due.is("stack", x.memory(which, STACK - 65536 + i), i % 8 < 2 ? 0x55 : 0);
            }
            for (int i = 0; i < 24; i++) {
                Due.is("the other segment", x.memory(which, p.dataAddress(1) + i), 0);
            }
            Due.is("the stack's end", x.memory(which, STACK - 1), 0);
        }
    }

    /** The TEXT begins inside a long, right behind data. */
    private static void oddText() {
        for (int more : new int[] {0, 4, 8, 12}) {
            Prog p = new Prog();
            p.data(6, 48 + (more == 0 ? 0 : more));
            p.textMore = more == 0 ? 0 : more - 16;
            p.function("f");
            Due.is("right behind data", p.textOffset(), p.dataOffset(0) + 48 + more);
            p.number(9, p.dataAddress(0) + 44 + more).number(10, STACK - 65536).put(Word.movn(4, 0, 0));
            p.put(Word.store(2, 4, 9, 0)).number(5, 0x1122334455667788L).put(Word.store(3, 5, 10, 0));
            p.put(Word.store(3, 5, 10, 8), Word.load(2, 6, 9, 0), Word.load(3, 7, 10, 0));
            CodeLayout x = runs("data and stack", 1, p);
            register("data", x, 6, 0xFFFFFFFFL);
            register("stack", x, 7, 0x1122334455667788L);
            for (int which = 0; which < 3; which++) {
                Due.is("behind data", x.memory(which, p.dataAddress(0) + 48 + more), -1);
                Due.is("before", x.memory(which, p.dataAddress(0) + 43 + more), 0);
                Due.is("on the stack", x.memory(which, STACK - 65536 + 15), 0x11);
            }
            Due.is("check()", x.check(), 0);
            Due.holds("same()", x.same());
        }
    }

    /** Loads and stores at each place in a long. */
    private static void everyPlace() {
        for (int width : new int[] {0, 2, 3}) {
            int bytes = 1 << width;
            for (int i = 0; i < 17; i++) {
                Prog p = begin();
                for (int k = 0; k < 64; k++) {
                    p.data.get(0)[k] = (byte) (3 * k + 1);
                }
                p.number(9, p.dataAddress(0) + i).number(4, 0xF1E2D3C4B5A69788L);
                p.put(Word.load(width, 5, 9, 0), Word.store(width, 4, 9, 0), Word.load(width, 6, 9, 0));
                CodeLayout x = runs("place " + i, 1, p);
                long loaded = 0;
                long stored = 0;
                for (int k = 0; k < bytes; k++) {
                    loaded |= (long) (3 * (i + k) + 1 & 255) << 8 * k;
                    stored |= 0xF1E2D3C4B5A69788L & 255L << 8 * k;
                }
                register("loaded", x, 5, loaded);
                register("stored", x, 6, stored);
                for (int which = 0; which < 3; which++) {
                    for (int k = 0; k < 40; k++) {
                        boolean inside = k >= i && k < i + bytes;
                        int due = inside ? (int) (stored >>> 8 * (k - i)) & 255 : 3 * k + 1 & 255;
                        Due.is("byte " + k, x.memory(which, p.dataAddress(0) + k), due);
                    }
                }
            }
        }
    }

    /** Whatever fixes the TEXT has, the stack is numbers at first. */
    private static void stackHoldsNumbers() {
        Prog p = begin();
        for (int i = 0; i < 20; i++) {
            p.codeAddress(3, "stay").bl("g");
        }
        end(p).function("g").put(Word.ret(30));
        CodeLayout x = read(p);
        x.run(1, 1);
        for (int i = 0; i < 200; i++) {
            Due.is("keeps()", x.keeps(STACK - 65536 + 8 * i), 0);
            Due.is("keeps()", x.keeps(STACK - 8 - 8 * i), 0);
        }
        for (int i = 0; i < 64; i += 8) {
            Due.is("keeps() of data", x.keeps(p.dataAddress(0) + i), 0);
        }
    }

    /** Sums of longs wrap, also those that make an address. */
    private static void addressesThatWrap() {
        long data = begin().dataAddress(0);
        register("n + m", runs("n + m wraps", 1, begin().number(9, -8).number(10, data + 16).put(Word.movz(4, 77, 0),
            Word.storeAt(3, 4, 9, 10, false), Word.loadAt(0, 5, 10, 9, false))), 5, 77);
        runs("m times 8 wraps", 1, begin().number(9, data).number(10, 1L << 61).put(Word.loadAt(3, 4, 9, 10, true)));
        runs("n and a number wrap", 2, begin().number(9, -8).put(Word.load(3, 4, 9, 8)));
        runs("a long over the greatest address", 2, begin().number(9, -4).put(Word.load(3, 4, 9, 0)));
        runs("a pair over the greatest address", 2, begin().number(9, -8).put(Word.loadPair(2, 4, 5, 9, 0)));
        CodeLayout x = runs("a pair's n wraps", 2, begin().number(9, 8).put(Word.loadPair(3, 4, 5, 9, -16)));
        register("it does not change", x, 9, 8);
        x = runs("SP wraps", 1, begin().number(9, -1).put(Word.addNumber(31, 9, 2), Word.addNumber(4, 31, 0)));
        register("SP", x, 4, 1);
        runs("a text over the greatest address", 2, begin().number(1, -1).number(2, 2).put(Word.movz(8, 64, 0),
            Word.CALL));
    }

    private static void storesWithoutTheFlag() {
        long fixed = begin().dataAddress(1);
        for (int i = 0; i < 24; i++) {
            runs("a byte", 2, begin().number(9, fixed + i).put(Word.store(0, 4, 9, 0)));
            runs("a byte loaded", 1, begin().number(9, fixed + i).put(Word.load(0, 4, 9, 0)));
        }
        runs("a long", 2, begin().number(9, fixed + 16).put(Word.store(3, 4, 9, 0)));
        runs("a pair", 2, begin().number(9, fixed + 8).put(Word.storePair(2, 4, 5, 9, 0)));
        runs("of 31", 2, begin().number(9, fixed).put(Word.store(3, 31, 9, 0)));
    }

    /** What faults does nothing: no register, no flag, no byte, no call, no instruction more. */
    private static void nothingIsDone() {
        int[] faulting = {Word.load(3, 4, 9, 0), Word.store(3, 4, 9, 0), Word.loadPair(1, 4, 5, 9, 16),
            Word.loadPair(3, 4, 5, 9, 16), Word.storePair(3, 4, 5, 9, -16), Word.load(0, 31, 9, 0)};
        for (int w : faulting) {
            Prog p = begin().number(9, 16).put(Word.movz(4, 4, 0), Word.movz(5, 5, 0), Word.subs(31, 31, 31));
            int before = p.words.size();
            CodeLayout x = runs("a fault", 2, p.put(w));
            for (int which = 0; which < 3; which++) {
                Due.is("instructions", x.told(which, 1), before);
                Due.is("flags", x.told(which, 2), 6);
            }
            register("X4", x, 4, 4);
            register("X5", x, 5, 5);
            register("X9", x, 9, 16);
        }
        Prog p = begin().number(1, 16).number(2, 1).put(Word.movz(8, 64, 0), Word.movz(0, 3, 0));
        CodeLayout x = runs("a call's text", 2, p.put(Word.CALL));
        register("X0", x, 0, 3);
        for (int which = 0; which < 3; which++) {
            Due.is("calls", x.told(which, 3), 0);
            Due.is("bytes", x.told(which, 4), 0);
            Due.is("trace", x.trace(which, 0, 0), 0);
        }
    }

    /** BR, BLR and RET beyond the TEXT are done; the word there is not. */
    private static void fetchedBeyond() {
        Prog p = begin();
        long text = p.textAddress();
        int[] words = {Word.br(9), Word.blr(9), Word.ret(9)};
        for (long to : new long[] {0, 4, -4, TOP, text - 4, text - 1, STACK - 8, STACK, p.dataAddress(0)}) {
            for (int w : words) {
                Prog q = begin().number(9, to);
                int before = q.words.size();
                boolean stops = to > text - 4 && to < text;
                CodeLayout x = read(end(q.put(w)));
                x.lay(4, 4);
                for (int which = 0; which < 3; which++) {
                    boolean stopped = which == 1 && stops;
                    Due.is("to " + to, x.run(which, 9), stopped ? 3 : 2);
                    Due.is("instructions", x.told(which, 1), before + (stopped ? 0 : 1));
                    Due.is("visits", x.told(which, 0), 1);
                }
            }
        }
    }

    /** With no hot row the new TEXT may begin with bytes 0: to go there is to go astray. */
    private static void emptyHotRow() {
        long text = begin().textAddress();
        for (long to : new long[] {text, text + 1, text + 4, 262140}) {
            for (int w : new int[] {Word.br(9), Word.blr(9), Word.ret(9)}) {
                Prog p = begin().number(9, to);
                int before = p.words.size();
                CodeLayout x = read(end(p.put(w)));
                Due.is("lay()", x.lay(4, 65536), 262144 - text + x.count(2));
                Due.is("astray", x.run(2, 9), 4);
                Due.is("instructions", x.told(2, 1), before);
                Due.is("X30", x.register(2, 30), 0);
            }
        }
        Prog p = begin().number(9, 262144).put(Word.cbnzAt(5), Word.addNumber(5, 5, 1), Word.br(9)).label("out");
        CodeLayout x = read(end(p));
        x.lay(4, 65536);
        Due.is("to the first block", x.run(2, 9), 1);
        Due.is("visits", x.told(2, 0), 4);
        Due.is("in the old TEXT there is none", x.run(0, 9), 2);
    }

    /** Behind an END BL or BLR the new file may have a B: to go there is not to go astray. */
    private static void behindEachCall() {
        for (boolean byRegister : new boolean[] {false, true}) {
            Prog p = begin().codeAddress(9, "g").label("call");
            if (byRegister) {
                p.put(Word.blr(9));
            } else {
                p.bl("g");
            }
            p.label("next").put(Word.addNumber(5, 5, 1)).exit().label("stay").b("stay");
            p.function("g").put(Word.ret(30));
            CodeLayout x = read(p);
            Due.is("edge()", x.edge(p.address("call"), p.address("g"), 1), 0);
            x.lay(64, 65536);
            Due.is("put behind", x.laid(4), 1);
            for (int which = 0; which < 3; which++) {
                Due.is("run(" + which + ")", x.run(which, 9), 1);
                Due.is("X5", x.register(which, 5), 1);
                Due.is("visits", x.told(which, 0), 3);
            }
            Due.is("X30 is behind the END", x.register(2, 30), x.moved(p.address("call")) + 4);
            Due.is("newer(30)", x.newer(30), x.register(2, 30));
            Due.is("instructions", x.told(2, 1), x.told(0, 1) + 1);
        }
    }

    private static void textsAtTheEdges() {
        int[] tell = {Word.movz(8, 64, 0), Word.CALL};
        long data = begin().dataAddress(0);
        for (long many : new long[] {0, 1, 63, 64}) {
            CodeLayout x = runs("a text", 1, begin().number(1, data).number(2, many).put(tell));
            register("X0", x, 0, many);
            for (int which = 0; which < 3; which++) {
                Due.is("bytes", x.told(which, 4), many);
                Due.is("the byte behind them", x.text(which, (int) many), -1);
            }
        }
        runs("a byte too many", 2, begin().number(1, data).number(2, 65).put(tell));
        runs("a byte before", 2, begin().number(1, data - 1).number(2, 1).put(tell));
        runs("a byte behind", 2, begin().number(1, data + 64).number(2, 1).put(tell));
        for (long many : new long[] {4096, 4095}) {
            register("X0", runs("the most", 1, begin().number(1, STACK - many).number(2, many).put(tell)), 0, many);
            runs("beyond the stack", 2, begin().number(1, STACK - many + 1).number(2, many).put(tell));
        }
        for (long many : new long[] {4097, -1, TOP, 1L << 32, 1L << 32 | 1, 65536}) {
            CodeLayout x = runs("as others", 1, begin().number(1, 5).number(2, many).put(tell));
            register("X0", x, 0, -38);
            for (int which = 0; which < 3; which++) {
                Due.is("calls", x.told(which, 3), 2);
                Due.is("trace of X2", x.trace(which, 0, 3), many);
                Due.is("bytes", x.told(which, 4), 0);
            }
        }
        for (long from : new long[] {0, -1, data + 64, begin().textAddress()}) {
            register("X0", runs("nothing from anywhere", 1, begin().number(1, from).number(2, 0).put(tell)), 0, 0);
        }
    }

    private static CodeLayout calls(int times, int bytes) {
        Prog p = begin().number(1, STACK - 4096).number(2, bytes).put(Word.movz(8, 64, 0)).number(3, times);
        p.put(Word.movz(4, 0x41, 0), Word.movz(6, 1, 0)).label("loop").put(Word.store(0, 4, 1, 0), Word.CALL);
        p.put(Word.add(4, 4, 6), Word.subNumber(3, 3, 1)).cbnz(3, "loop");
        return runs(times + " calls", 1, p);
    }

    /** The first 200 calls are kept; that of the end is one of them. */
    private static void keptCalls() {
        for (int times : new int[] {198, 199, 200, 201}) {
            CodeLayout x = calls(times, 1);
            for (int which = 0; which < 3; which++) {
                Due.is("calls", x.told(which, 3), times + 1);
                Due.is("the first", x.trace(which, 0, 0), 64);
                Due.is("the last of these", x.trace(which, times - 1, 0), times <= 200 ? 64 : 0);
                Due.is("the end's", x.trace(which, times, 0), times < 200 ? 93 : 0);
                Due.is("behind it", x.trace(which, times + 1, 0), 0);
                Due.is("the 200th", x.trace(which, 199, 3), times >= 199 ? 1 : 0);
                Due.is("the 201st", x.trace(which, 200, 3), 0);
                Due.is("bytes", x.told(which, 4), times);
                Due.is("the last byte", x.text(which, times - 1), 0x41 + times - 1 & 255);
                Due.is("behind it", x.text(which, times), -1);
            }
        }
    }

    /** The first 16384 bytes are kept, whole calls or not. */
    private static void keptBytes() {
        int[][] rows = {{4, 4096}, {5, 4096}, {5, 4095}, {17, 1000}};
        for (int[] r : rows) {
            CodeLayout x = calls(r[0], r[1]);
            int all = r[0] * r[1];
            for (int which = 0; which < 3; which++) {
                Due.is("bytes", x.told(which, 4), all);
                for (int i = 0; i < r[0]; i++) {
                    int at = i * r[1];
                    Due.is("the first byte of a call", x.text(which, at), at < 16384 ? 0x41 + i : -1);
                }
                Due.is("byte 16383", x.text(which, 16383), 0);
                Due.is("byte 16384", x.text(which, 16384), -1);
            }
        }
        CodeLayout x = calls(5, 4095);
        // 4 times 4095 bytes are 16380: of the fifth call four bytes are kept.
        Due.is("the fifth call's first byte", x.text(0, 16380), 0x45);
    }

    private static void otherCalls() {
        for (long number : new long[] {0, 63, 65, 92, 94, -1, TOP, 64 | 1L << 32, 93 | 1L << 32}) {
            Prog p = begin().number(1, 1).number(2, 2).put(Word.movz(0, 9, 0)).number(8, number).put(Word.CALL);
            CodeLayout x = runs("call " + number, 1, p);
            register("X0", x, 0, -38);
            for (int which = 0; which < 3; which++) {
                Due.is("calls", x.told(which, 3), 2);
                long[] due = {number, 9, 1, 2};
                for (int what = 0; what < 4; what++) {
                    Due.is("trace", x.trace(which, 0, what), due[what]);
                }
            }
        }
    }

    private static void flags(String what, int due, long x1, long x2, int w) {
        CodeLayout x = runs(what, 1, begin().number(1, x1).number(2, x2).put(w));
        for (int which = 0; which < 3; which++) {
            Due.is(what, x.told(which, 2), due);
        }
    }

    private static void carriesAndOverflows() {
        flags("-1 - -2", 2, -1, -2, Word.subs(0, 1, 2));
        flags("-2 - -1", 8, -2, -1, Word.subs(0, 1, 2));
        flags("-1 - 1", 10, -1, 1, Word.subs(0, 1, 2));
        flags("1 - -1", 0, 1, -1, Word.subs(0, 1, 2));
        flags("-1 + -1", 10, -1, -1, Word.adds(0, 1, 2));
        flags("1 + 1", 0, 1, 1, Word.adds(0, 1, 2));
        flags("1 + -1", 6, 1, -1, Word.adds(0, 1, 2));
        flags("least + -1", 3, TOP, -1, Word.adds(0, 1, 2));
        flags("least - least", 6, TOP, TOP, Word.subs(0, 1, 2));
        flags("greatest - -1", 9, Long.MAX_VALUE, -1, Word.subs(0, 1, 2));
        flags("all bits of the overflow", 3, 0xAAAAAAAAAAAAAAAAL, 0x5555555555555555L, Word.subs(0, 1, 2));
        flags("0 - 0", 6, 0, 0, Word.subs(0, 1, 2));
        flags("0 + 0", 4, 0, 0, Word.adds(0, 1, 2));
        flags("0 - 0 by a number", 6, 0, 0, Word.subsNumber(0, 1, 0));
        flags("-4095 + 4095", 6, -4095, 0, Word.addsNumber(0, 1, 4095));
        flags("by a number moved by 12", 6, 4095 << 12, 0, Word.movedBy12(Word.subsNumber(0, 1, 4095)));
    }

    private static void flagsOfWords() {
        flags("-1 - -2", 2, 0xFFFFFFFFL, 0xFFFFFFFEL, Word.narrow(Word.subs(0, 1, 2)));
        flags("-1 - 1", 10, 0xFFFFFFFFL, 1, Word.narrow(Word.subs(0, 1, 2)));
        flags("-1 + -1", 10, 0xFFFFFFFFL, 0xFFFFFFFFL, Word.narrow(Word.adds(0, 1, 2)));
        flags("least + least", 7, 0x80000000L, 0x80000000L, Word.narrow(Word.adds(0, 1, 2)));
        flags("0 - least", 9, 0, 0x80000000L, Word.narrow(Word.subs(0, 1, 2)));
        flags("what is above counts not", 4, 1L << 32, 3L << 40, Word.narrow(Word.adds(0, 1, 2)));
        flags("and: 1", 0, 1, 1, Word.narrow(Word.ands(0, 1, 2)));
        flags("and: greatest", 0, 0x7FFFFFFFL, 0x7FFFFFFFL, Word.narrow(Word.ands(0, 1, 2)));
        flags("and: least", 8, 0x80000000L, 0x80000000L, Word.narrow(Word.ands(0, 1, 2)));
        flags("and: bits above alone", 4, -1L << 32, -1, Word.narrow(Word.ands(0, 1, 2)));
        flags("and of longs: bits above", 8, -1L << 32, -1, Word.ands(0, 1, 2));
        flags("and of longs: a word below 0", 0, 0x80000000L, -1, Word.ands(0, 1, 2));
    }

    /** Only what is said to be with flags changes them. */
    private static void flagsStay() {
        int[] words = {Word.add(0, 1, 2), Word.sub(0, 1, 2), Word.addNumber(0, 1, 5), Word.subNumber(0, 1, 5),
            Word.and(0, 1, 2), Word.or(0, 1, 2), Word.xor(0, 1, 2), Word.turned(Word.and(0, 1, 2)),
            Word.narrow(Word.and(0, 1, 2)), Word.narrow(Word.xor(0, 1, 1)), Word.movz(0, 0, 0), Word.movn(0, 0, 0),
            Word.movk(0, 0, 0), Word.madd(0, 1, 2, 31), Word.two(0, 1, 2, 2), Word.two(0, 1, 2, 8),
            Word.choose(0, 1, 2, Word.EQ), Word.load(3, 0, 9, 0), Word.store(3, 1, 9, 0), Word.storePair(2, 1, 2, 9, 0),
            Word.NOP, Word.movz(8, 1, 0)};
        long[][] before = {{0, 0}, {-1, 1}, {Long.MIN_VALUE, -1}, {1, 0}, {1, 2}};
        for (int k = 0; k < before.length; k++) {
            for (int w : words) {
                Prog p = begin().number(3, before[k][0]).number(4, before[k][1]).number(9, begin().dataAddress(0));
                p.number(1, -5).number(2, 5).put(Word.subs(31, 3, 4), w, Word.CALL);
                CodeLayout x = runs("a word without flags", 1, p);
                for (int which = 0; which < 3; which++) {
                    Due.is("flags behind it", x.told(which, 2), flagsOf(before[k][0], before[k][1]));
                }
            }
        }
    }

    /** N Z C V of a less b. */
    private static int flagsOf(long a, long b) {
        long r = a - b;
        boolean over = a < 0 != b < 0 && a < 0 != r < 0;
        return (r < 0 ? 8 : 0) | (r == 0 ? 4 : 0) | (Long.compareUnsigned(a, b) >= 0 ? 2 : 0) | (over ? 1 : 0);
    }

    /** Every register may be d: what it gets is lost in 31 alone. */
    private static void anyRegister() {
        for (int d = 0; d < 32; d++) {
            int[] words = {Word.add(d, 8, 9), Word.addNumber(d, 8, 7), Word.or(d, 8, 9), Word.movz(d, 12, 0),
                Word.madd(d, 8, 9, 31), Word.two(d, 8, 9, 8), Word.choose(d, 8, 9, Word.NE),
                Word.chooseMore(d, 8, 9, Word.EQ), Word.load(0, d, 10, 0)};
            long[] due = {12, 12, 7 | 5, 12, 35, 5 << 7, 5, 8, 77};
            for (int k = 0; k < words.length; k++) {
                Prog p = begin().number(8, 5).number(9, 7).dataAddress(10, 0, 0).put(words[k]);
                p.put(Word.br(31));
                p.data.get(0)[0] = 77;
                CodeLayout x = read(p.label("stay").b("stay"));
                x.lay(4, 4);
                boolean isSp = d == 31 && k != 1;
                for (int which = 0; which < 3; which++) {
                    Due.is("run()", x.run(which, 9), 2);
                    Due.is("word " + k + " to " + d, x.register(which, d), isSp ? STACK : due[k]);
                }
            }
        }
    }

    private static void two(String what, long due, long n, long m, int w) {
        register(what, runs(what, 1, begin().number(1, n).number(2, m).put(w)), 0, due);
    }

    private static void divisions() {
        int without = Word.two(0, 1, 2, 2);
        int with = Word.two(0, 1, 2, 3);
        two("greatest by itself", 1, -1, -1, without);
        two("one less by the greatest", 0, -2, -1, without);
        two("least by least", 1, TOP, TOP, without);
        two("below least by least", 0, Long.MAX_VALUE, TOP, without);
        two("0 by 0", 0, 0, 0, without);
        two("0 by 5", 0, 0, 5, without);
        two("greatest by 1", -1, -1, 1, without);
        two("greatest by 2", Long.MAX_VALUE, -1, 2, without);
        two("greatest by 10", 1844674407370955161L, -1, 10, without);
        two("words: greatest by itself", 1, 0xFFFFFFFFL, 0xFFFFFFFFL, Word.narrow(without));
        two("words: by 0", 0, 7, 1L << 32, Word.narrow(without));
        two("-7 by -3", 2, -7, -3, with);
        two("7 by -2", -3, 7, -2, with);
        two("7 by -1", -7, 7, -1, with);
        two("7 by 1", 7, 7, 1, with);
        two("-7 by 1", -7, -7, 1, with);
        two("0 by -1", 0, 0, -1, with);
        two("least by 1", TOP, TOP, 1, with);
        two("least by -1", TOP, TOP, -1, with);
        two("least by 0", 0, TOP, 0, with);
        two("least by least", 1, TOP, TOP, with);
        two("words: least by -1", 0x80000000L, 0x80000000L, 0xFFFFFFFFL, Word.narrow(with));
        two("words: -7 by 2", 0xFFFFFFFDL, -7, 2, Word.narrow(with));
        two("words: by 0", 0, -7, 1L << 32, Word.narrow(with));
    }

    private static void goes(String what, boolean due, Prog p) {
        p.movz0().exit().label("there").put(Word.movz(0, 1, 0));
        register(what, runs(what, 1, p), 0, due ? 1 : 0);
    }

    private static void bitsTold() {
        for (int bit = 0; bit < 64; bit++) {
            goes("TBNZ of the bit", true, begin().number(1, 1L << bit).tbnz(1, bit, "there"));
            goes("TBZ of the bit", false, begin().number(1, 1L << bit).tbz(1, bit, "there"));
            goes("TBNZ of all others", false, begin().number(1, ~(1L << bit)).tbnz(1, bit, "there"));
            goes("TBZ of all others", true, begin().number(1, ~(1L << bit)).tbz(1, bit, "there"));
        }
    }

    private static void wordsThatAreZero() {
        long[] values = {0, 1, -1, 1L << 31, 1L << 32, TOP, 0xFFFFFFFFL, 0x7FFFFFFFL};
        for (long value : values) {
            goes("CBZ", value == 0, begin().number(1, value).cbz(1, "there"));
            goes("CBNZ", value != 0, begin().number(1, value).cbnz(1, "there"));
            goes("CBZ of words", (int) value == 0, begin().number(1, value).cbzWord(1, "there"));
        }
    }

    /** The greatest and the least numbers that loads and pairs tell. */
    private static void farthestNumbers() {
        long at = STACK - 65536;
        for (int width : new int[] {0, 2, 3}) {
            int most = 4095 << width;
            Prog p = begin().number(9, at).number(10, at + most).number(4, 0x77).put(Word.store(0, 4, 10, 0));
            register("the greatest number", runs("a load", 1, p.put(Word.load(width, 5, 9, most))), 5, 0x77);
        }
        Prog p = begin().number(9, at + 1024).number(4, 0x77).number(5, 0x88);
        p.put(Word.storePair(2, 4, 5, 9, 504), Word.storePair(2, 5, 4, 9, -512), Word.storePair(3, 4, 4, 9, -512));
        CodeLayout x = runs("pairs", 1, p);
        register("n", x, 9, at + 512);
        for (int which = 0; which < 3; which++) {
            Due.is("at 504", x.memory(which, at + 1024 + 504), 0x77);
            Due.is("at 512", x.memory(which, at + 1024 + 512), 0x88);
            Due.is("at -512", x.memory(which, at + 512), 0x77);
            Due.is("at -504", x.memory(which, at + 520), 0x77);
        }
        register("a number moved by 12", runs("ADD", 1, begin().put(Word.movedBy12(Word.addNumber(5, 4, 4095)))), 5,
            4095 << 12);
        register("16 bits at 48", runs("MOVE", 1, begin().put(Word.movz(5, 65535, 3))), 5, -1L << 48);
        register("moved by 63", runs("ADD", 1, begin().number(1, 1).put(Word.shifted(Word.add(5, 31, 1), 0, 63))), 5,
            TOP);
    }

    /** ADRP makes a page from its own, wherever it stands in its page. */
    private static void pagesOfAdrp() {
        for (int before : new int[] {0, 900, 960, 970, 980, 1000, 1100}) {
            Prog p = begin();
            for (int i = 0; i < before; i++) {
                p.put(Word.NOP);
            }
            p.dataPage(5, 0, 8).codePage(6, "there").codeLow(7, 6, "there").exit().label("there").put(Word.NOP);
            end(p);
            CodeLayout x = read(p);
            x.edge(p.address("stay"), p.address("stay"), 1);
            for (int apart : new int[] {4, 4096, 2097152}) {
                x.lay(4, apart);
                for (int which = 0; which < 3; which++) {
                    Due.is("run()", x.run(which, 9), 1);
                    Due.is("a page of data", x.register(which, 5), p.dataAddress(0) & ~4095);
                    long there = which == 2 ? x.moved(p.address("there")) : p.address("there");
                    Due.is("a page of the TEXT", x.register(which, 6), which == 1 ? 0 : there & ~4095);
                    Due.is("what is there", x.register(which, 7), there);
                }
                Due.is("kind(5)", x.kind(5), 0);
                Due.is("kind(6)", x.kind(6), 3);
                Due.is("kind(7)", x.kind(7), 1);
            }
        }
    }

    /** CODE that one run left is not there in the next one. */
    private static void codesOfAnotherRun() {
        Prog p = begin().codeAddress(3, "stay").put(Word.storePair(3, 3, 3, 31, -16)).dataAddress(9, 0, 0);
        p.put(Word.store(3, 3, 9, 8), Word.store(3, 31, 9, 16)).label("two").put(Word.NOP).b("three").label("three");
        end(p).pointer(0, 16, "two");
        CodeLayout x = read(p);
        Due.is("run(1, 9)", x.run(1, 9), 1);
        Due.is("kept", x.keeps(STACK - 8), 1);
        Due.is("kept in data", x.keeps(p.dataAddress(0) + 8), 1);
        Due.is("a pointer stored over", x.keeps(p.dataAddress(0) + 16), 0);
        Due.is("run(1, 0)", x.run(1, 0), 0);
        Due.is("the stack is empty", x.keeps(STACK - 8), 0);
        Due.is("data as in the file", x.keeps(p.dataAddress(0) + 8), 0);
        Due.is("a pointer again", x.keeps(p.dataAddress(0) + 16), 1);
        Due.is("its address", x.newest(p.dataAddress(0) + 16), p.address("two"));
        Due.is("X3", x.kind(3), 0);
    }

    /** With no fix of the TEXT the first of all fixes is a pointer. */
    private static void firstFixIsAPointer() {
        Prog p = begin();
        p.number(9, p.dataAddress(0)).put(Word.load(3, 4, 9, 0), Word.br(4)).label("there");
        end(p).pointer(0, 0, "there").pointer(0, 56, "stay");
        CodeLayout x = read(p);
        x.lay(4, 64);
        for (int which = 0; which < 3; which++) {
            Due.is("run(" + which + ")", x.run(which, 9), 1);
        }
        Due.is("kind(4)", x.kind(4), 1);
        Due.is("keeps()", x.keeps(p.dataAddress(0)), 1);
        Due.is("newest()", x.newest(p.dataAddress(0)), x.moved(p.address("there")));
        Due.is("the last long", x.keeps(p.dataAddress(0) + 56), 1);
        Due.is("its address", x.newest(p.dataAddress(0) + 56), x.moved(p.address("stay")));
    }

    /** A long that is CODE at data + 16: each load, store and text around it. */
    private static void codeAtTheEdges() {
        for (int i = 4; i < 30; i++) {
            for (int width : new int[] {0, 2, 3}) {
                int bytes = 1 << width;
                boolean part = i + bytes > 16 && i < 24 && !(width == 3 && i == 16);
                around("a load at " + i, part, i, Word.load(width, 4, 9, 0));
                around("a store at " + i, part, i, Word.store(width, 31, 9, 0));
            }
            boolean first = i + 8 > 16 && i < 24 && i != 16;
            boolean second = i + 16 > 16 && i + 8 < 24 && i + 8 != 16;
            around("a pair at " + i, first || second, i, Word.loadPair(2, 4, 5, 9, 0));
            for (int many : new int[] {1, 2, 7, 8, 9, 20}) {
                Prog p = begin().number(1, begin().dataAddress(0) + i).number(2, many).put(Word.movz(8, 64, 0), Word.CALL);
                ofBlocks("a text at " + i, i + many > 16 && i < 24 ? 3 : 1, p);
            }
        }
    }

    private static void codeToAnyRegister() {
        for (int d = 0; d < 32; d++) {
            int[] words = {Word.copy(d, 10), Word.choose(d, 10, 9, Word.NE), Word.choose(d, 9, 10, Word.EQ),
                Word.load(3, d, 9, 16), Word.loadAt(3, d, 11, 31, true)};
            for (int w : words) {
                Prog p = begin().number(9, begin().dataAddress(0)).put(Word.addNumber(11, 9, 16), Word.load(3, 10, 9, 16));
                p.put(w, Word.br(31)).label("stay").b("stay").pointer(0, 16, "stay");
                CodeLayout x = read(p);
                Due.is("run(1)", x.run(1, 9), 2);
                Due.is("kind(" + d + ")", x.kind(d), d == 31 ? 0 : 1);
                Due.is("register(" + d + ")", x.register(1, d), d == 31 ? STACK : p.address("stay"));
            }
        }
    }

    /** CODE as n or m of a load, store or pair stops the run, wherever that would lead. */
    private static void codeAsAnAddress() {
        int[] words = {Word.load(0, 4, 3, 0), Word.load(0, 4, 3, 4095), Word.load(3, 4, 3, 32760), Word.store(3, 4, 3, 32760),
            Word.store(2, 4, 3, 16380), Word.loadAt(0, 4, 3, 9, false), Word.loadAt(0, 4, 9, 3, false),
            Word.loadAt(3, 4, 9, 3, true), Word.storeAt(3, 4, 3, 9, true), Word.storeAt(2, 4, 9, 3, true),
            Word.loadPair(1, 4, 5, 3, 8), Word.loadPair(2, 4, 5, 3, -512), Word.loadPair(2, 4, 5, 3, 504),
            Word.loadPair(3, 4, 5, 3, -512), Word.storePair(1, 4, 5, 3, 8), Word.storePair(2, 4, 5, 3, -512),
            Word.storePair(3, 4, 5, 3, -512), Word.storePair(2, 4, 5, 3, 504), Word.load(0, 31, 3, 4095),
            Word.storePair(2, 31, 31, 3, -512)};
        for (int w : words) {
            for (int kind = 1; kind <= 3; kind++) {
                Prog p = begin().number(9, 16);
                if (kind == 1) {
                    p.codeAddress(3, "f");
                } else if (kind == 2) {
                    p.bl("g").label("back").put(Word.copy(3, 30));
                } else {
                    p.codePage(3, "f");
                }
                int done = p.words.size() + (kind == 2 ? 1 : 0);
                p.put(w);
                end(p).function("g").put(Word.ret(30));
                CodeLayout x = read(p);
                Due.is("kind " + kind + " by " + Integer.toHexString(w), x.run(1, 9), 3);
                Due.is("instructions", x.told(1, 1), done);
                Due.is("kind(3)", x.kind(3), kind);
                Due.is("kind(4)", x.kind(4), 0);
            }
        }
    }

    /** ADD with a fix 277 makes START of PAGE of that block alone. */
    private static void pageOfAnother() {
        String[] labels = {"one", "two", "three"};
        for (String page : labels) {
            for (String low : labels) {
                Prog p = begin().codePage(3, page).codeLow(4, 3, low).exit().label("one").put(Word.NOP).label("two");
                CodeLayout x = read(end(p.put(Word.NOP).label("three").put(Word.NOP)));
                Due.is("PAGE of " + page + ", START of " + low, x.run(1, 9), page.equals(low) ? 1 : 3);
                Due.is("kind(3)", x.kind(3), 3);
                Due.is("kind(4)", x.kind(4), page.equals(low) ? 1 : 0);
            }
        }
    }

    private static void around(String what, boolean stops, int at, int w) {
        ofBlocks(what, stops ? 3 : 1, begin().number(9, begin().dataAddress(0) + at).put(w));
    }

    private static CodeLayout ofBlocks(String what, int outcome, Prog begun) {
        int done = begun.words.size() - 1;
        CodeLayout x = read(end(begun).pointer(0, 16, "stay"));
        Due.is(what, x.run(1, 9), outcome);
        if (outcome == 3) {
            Due.is(what + ": instructions", x.told(1, 1), done);
        }
        return x;
    }

    /** Numbers as addresses: with any of their bytes in the TEXT the run stops. */
    private static void textRanges() {
        Prog sized = end(begin().number(9, begin().textAddress()).put(Word.NOP));
        long text = sized.textAddress();
        long behind = text + 4L * sized.words.size();
        for (int i = -18; i < 3; i++) {
            int[] many = {1, 4, 8, 8, 16, 4};
            int[] words = {Word.load(0, 4, 9, 0), Word.load(2, 4, 9, 0), Word.load(3, 4, 9, 0), Word.store(3, 4, 9, 0),
                Word.loadPair(2, 4, 5, 9, 0), Word.br(9)};
            for (int k = 0; k < words.length; k++) {
                ofBlocks("before, " + i, i + many[k] > 0 ? 3 : 2, begin().number(9, text + i).put(words[k]));
                // The program has as many words whatever the address is.
                int high = i + 2;
                ofBlocks("behind, " + high, high < 0 ? 3 : 2, begin().number(9, behind + high).put(words[k]));
            }
        }
        for (int many : new int[] {1, 2, 100, 4096}) {
            for (int i = -2; i < 3; i++) {
                Prog p = begin().number(1, text - many + i).number(2, many).put(Word.movz(8, 64, 0), Word.CALL);
                ofBlocks("a text, " + i, i > 0 ? 3 : 2, p);
            }
        }
    }

    /** The new TEXT is longer: addresses in it alone stop run 1, till it is laid shorter. */
    private static void newTextAlone() {
        long text = begin().textAddress();
        Prog p = end(begin().number(9, text + 4096).put(Word.load(0, 4, 9, 0)));
        CodeLayout x = read(p);
        Due.is("nothing laid", x.run(1, 9), 2);
        x.lay(4, 4);
        Due.is("as long as it was", x.run(1, 9), 2);
        x.edge(p.address("stay"), p.address("stay"), 1);
        int bytes = x.lay(4, 65536);
        Due.holds("much longer", bytes > 4097);
        Due.is("in the new one", x.run(1, 9), 3);
        Due.is("read in run 2", x.run(2, 9), 1);
        Due.is("beyond in run 0", x.run(0, 9), 2);
        Prog q = end(begin().number(9, text + bytes - 1).put(Word.load(0, 4, 9, 0)));
        Prog r = end(begin().number(9, text + bytes).put(Word.load(0, 4, 9, 0)));
        Due.is("as many words", q.words.size(), p.words.size());
        CodeLayout y = read(q);
        y.edge(q.address("stay"), q.address("stay"), 1);
        Due.is("lay()", y.lay(4, 65536), bytes);
        Due.is("its last byte", y.run(1, 9), 3);
        Due.is("its last byte in run 2", y.run(2, 9), 1);
        CodeLayout z = read(r);
        z.edge(r.address("stay"), r.address("stay"), 1);
        Due.is("lay()", z.lay(4, 65536), bytes);
        Due.is("the byte behind it", z.run(1, 9), 2);
        Due.is("the byte behind it in run 2", z.run(2, 9), 2);
    }

    /** The new TEXT is the shorter one: what lies in the old one alone stops run 1 too. */
    private static void oldTextAlone() {
        long text = begin().textAddress();
        for (int at = 47; at <= 64; at++) {
            Prog p = begin().number(9, text + at).put(Word.load(0, 4, 9, 0));
            for (int i = 0; i < 2; i++) {
                // Written with y before x, the ENDs of both fall away.
                p.cbz(1, "y" + i).label("x" + i).put(Word.NOP).b("z" + i).label("y" + i).put(Word.NOP).b("x" + i);
                p.label("z" + i);
            }
            CodeLayout x = read(end(p));
            int[][] ways = {{0, 2}, {2, 1}, {1, 3}, {3, 5}, {5, 4}, {4, 6}, {6, 7}};
            for (int[] way : ways) {
                x.edge(x.block(way[0], 0) + 4 * x.block(way[0], 1) - 4, x.block(way[1], 0), 9);
            }
            Due.is("the old TEXT", x.count(2), 64);
            Due.is("the new TEXT", x.lay(4, 4), 48);
            Due.is("run 0, byte " + at, x.run(0, 20), at < 64 ? 1 : 2);
            Due.is("run 1, byte " + at, x.run(1, 20), at < 64 ? 3 : 2);
            Due.is("run 2, byte " + at, x.run(2, 20), at < 48 ? 1 : 2);
        }
    }

    private static void keptLongs() {
        Prog p = begin().codeAddress(3, "stay").put(Word.storePair(3, 3, 3, 31, -16));
        CodeLayout x = runs("kept", 1, p);
        for (int i = -24; i < 24; i++) {
            long at = STACK + i;
            int due = i >= 0 || i % 8 != 0 ? -1 : i >= -16 ? 1 : 0;
            Due.is("keeps() at " + i, x.keeps(at), due);
            Due.is("newest() at " + i, x.newest(at), due == 1 ? x.moved(p.address("stay")) : 0);
            at = p.dataAddress(0) + i;
            Due.is("keeps() before data", x.keeps(at), i < 0 || at % 8 != 0 ? -1 : 0);
            at = p.dataAddress(0) + 64 + i;
            Due.is("keeps() behind data", x.keeps(at), i > -8 || at % 8 != 0 ? -1 : 0);
            Due.is("newest() of numbers", x.newest(at), 0);
        }
        for (long at : new long[] {0, -8, TOP, p.dataAddress(0) | 1L << 32, p.dataAddress(0) | TOP}) {
            Due.is("keeps(" + at + ")", x.keeps(at), -1);
            Due.is("newest(" + at + ")", x.newest(at), 0);
            for (int which = 0; which < 3; which++) {
                Due.is("memory(" + at + ")", x.memory(which, at), -1);
            }
        }
    }

    private static void numbersOfQuestions() {
        CodeLayout x = runs("questions", 1, begin().number(5, 9));
        int[] wrong = {-1, Integer.MIN_VALUE, Integer.MAX_VALUE};
        for (int k : wrong) {
            for (int which = 0; which < 3; which++) {
                Due.is("told()", x.told(which, k), -14);
                Due.is("register()", x.register(which, k), 0);
                Due.is("visit()", x.visit(which, k), -1);
                Due.is("trace()", x.trace(which, k, 0), 0);
                Due.is("trace()", x.trace(which, 0, k), 0);
                Due.is("text()", x.text(which, k), -1);
            }
            Due.is("told()", x.told(k, 0), -14);
            Due.is("register()", x.register(k, 5), 0);
            Due.is("visit()", x.visit(k, 0), -1);
            Due.is("memory()", x.memory(k, STACK - 1), -1);
            Due.is("trace()", x.trace(k, 0, 0), 0);
            Due.is("text()", x.text(k, 0), -1);
            Due.is("kind()", x.kind(k), -1);
            Due.is("newer()", x.newer(k), 0);
        }
        for (int which = 0; which < 3; which++) {
            Due.is("told(which, 6)", x.told(which, 6), -14);
            Due.is("register(which, 32)", x.register(which, 32), 0);
            Due.is("visit() behind the last", x.visit(which, x.told(which, 0)), -1);
            Due.is("trace(which, 0, 4)", x.trace(which, 0, 4), 0);
            Due.is("trace(which, 1, 0)", x.trace(which, 1, 0), 0);
            Due.is("trace(which, 0, 0)", x.trace(which, 0, 0), 93);
        }
        Due.is("told(3, 0)", x.told(3, 0), -14);
        Due.is("register(3, 5)", x.register(3, 5), 0);
        Due.is("kind(32)", x.kind(32), -1);
        Due.is("newer(32)", x.newer(32), 0);
        Due.is("newer(5)", x.newer(5), 9);
    }
}
