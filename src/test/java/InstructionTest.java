/** What each instruction does: registers, flags and memory behind short programs, the same in runs 0 and 2. */
public final class InstructionTest {
    private static final long TOP = Long.MIN_VALUE;

    public static void main(String[] args) {
        sums();
        sumsInSp();
        flagsOfSums();
        bits();
        moves();
        products();
        quotients();
        shifts();
        choices();
        loadsAndStores();
        pairs();
        goings();
        calls();
        Due.end("InstructionTest");
    }

    private static Prog begin() {
        Prog p = new Prog();
        p.data(6, 64);
        p.data(4, 16);
        p.function("f");
        return p;
    }

    /** Runs X1, X2, X3 through some words, and tells X0. */
    private static CodeLayout exec(long x1, long x2, long x3, int... words) {
        Prog p = begin();
        p.number(1, x1).number(2, x2).number(3, x3).put(words).exit().label("stay").b("stay");
        return finish(p);
    }

    private static CodeLayout finish(Prog p) {
        CodeLayout x = Feeder.read(p.file(), p.functionNames.size());
        x.lay(64, 64);
        Due.is("run(0)", x.run(0, 4096), 1);
        Due.is("run(1)", x.run(1, 4096), 1);
        Due.is("run(2)", x.run(2, 4096), 1);
        Due.is("flags", x.told(2, 2), x.told(0, 2));
        Due.is("flags", x.told(1, 2), x.told(0, 2));
        return x;
    }

    private static void is(String what, long due, long x1, long x2, long x3, int... words) {
        CodeLayout x = exec(x1, x2, x3, words);
        for (int which = 0; which < 3; which++) {
            Due.is(what, x.register(which, 0), due);
        }
    }

    private static void flags(String what, int due, long x1, long x2, int... words) {
        Due.is(what, exec(x1, x2, 0, words).told(0, 2), due);
    }

    private static void sums() {
        is("ADD by a number", 4100, 5, 0, 0, Word.addNumber(0, 1, 4095));
        is("ADD moved by 12", 5 + (4095L << 12), 5, 0, 0, Word.movedBy12(Word.addNumber(0, 1, 4095)));
        is("SUB by a number", -1, 5, 0, 0, Word.subNumber(0, 1, 6));
        is("SUB of words", 0xFFFFFFFFL, 5, 0, 0, Word.narrow(Word.subNumber(0, 1, 6)));
        is("ADD of words", 1, 0x1FFFFFFFFL, 0, 0, Word.narrow(Word.addNumber(0, 1, 2)));
        is("ADD of SP", 2147483648L + 16, 0, 0, 0, Word.addNumber(0, 31, 16));
        is("ADD to SP", 2147483648L - 32, 0, 0, 0, Word.subNumber(31, 31, 32), Word.addNumber(0, 31, 0));
        is("ADD of words to SP", 7, 7, 0, 0, Word.narrow(Word.addNumber(31, 1, 0)), Word.addNumber(0, 31, 0));
        is("ADD with flags to 31 is lost", 2147483648L, 7, 0, 0, Word.addsNumber(31, 1, 1), Word.addNumber(0, 31, 0));
        is("ADD", 12, 5, 7, 0, Word.add(0, 1, 2));
        is("ADD moved left", 5 + (7L << 40), 5, 7, 0, Word.shifted(Word.add(0, 1, 2), 0, 40));
        is("SUB moved right", 4, 5, 0, -1, Word.shifted(Word.sub(0, 1, 3), 1, 63));
        is("ADD moved right with sign", 4, 5, 0, -8, Word.shifted(Word.add(0, 1, 3), 2, 63));
        is("ADD of words moved right with sign", 4, 5, 0, 0x80000000L,
            Word.narrow(Word.shifted(Word.add(0, 1, 3), 2, 31)));
        is("ADD of words moved right", 6, 5, 0, -1, Word.narrow(Word.shifted(Word.add(0, 1, 3), 1, 31)));
        is("ADD of 31 is of 0", 5, 5, 0, 0, Word.add(0, 1, 31));
        is("ADD to 31 is lost", 9, 5, 9, 0, Word.add(31, 1, 2), Word.copy(0, 2));
    }

    private static void flagsOfSums() {
        flags("5 - 5", 6, 5, 5, Word.subs(0, 1, 2));
        flags("4 - 5", 8, 4, 5, Word.subs(0, 1, 2));
        flags("5 - 4", 2, 5, 4, Word.subs(0, 1, 2));
        flags("0 - least", 9, 0, TOP, Word.subs(0, 1, 2));
        flags("least - 1", 3, TOP, 1, Word.subs(0, 1, 2));
        flags("least + least", 7, TOP, TOP, Word.adds(0, 1, 2));
        flags("greatest + 1", 9, Long.MAX_VALUE, 1, Word.adds(0, 1, 2));
        flags("-1 + 1", 6, -1, 1, Word.adds(0, 1, 2));
        flags("-1 + 0", 8, -1, 0, Word.adds(0, 1, 2));
        flags("1 + 0 of words, high bits set", 0, 1L << 40 | 1, 1L << 63, Word.narrow(Word.adds(0, 1, 2)));
        flags("-1 + 1 of words", 6, 0xFFFFFFFFL, 1, Word.narrow(Word.adds(0, 1, 2)));
        flags("greatest word + 1", 9, 0x7FFFFFFFL, 1, Word.narrow(Word.adds(0, 1, 2)));
        flags("least word - 1", 3, 0x80000000L, 1, Word.narrow(Word.subs(0, 1, 2)));
        flags("0 - 1 of words", 8, 0, 1, Word.narrow(Word.subs(0, 1, 2)));
        flags("by a number", 6, 77, 0, Word.subsNumber(0, 1, 77));
        flags("SP by a number", 2, 0, 0, Word.subsNumber(31, 31, 1));
        flags("without flags nothing changes", 6, 5, 5, Word.subs(0, 1, 2), Word.add(0, 1, 2), Word.addNumber(0, 1, 1));
    }

    private static void bits() {
        is("and", 8, 12, 10, 0, Word.and(0, 1, 2));
        is("or", 14, 12, 10, 0, Word.or(0, 1, 2));
        is("xor", 6, 12, 10, 0, Word.xor(0, 1, 2));
        is("and not", 4, 12, 10, 0, Word.turned(Word.and(0, 1, 2)));
        is("or not", ~2L, 12, 10 ^ 8, 0, Word.turned(Word.or(0, 31, 2)));
        is("or not of words", 0xFFFFFFFDL, 0, 2, 0, Word.narrow(Word.turned(Word.or(0, 31, 2))));
        is("xor moved left", 12 ^ 40, 12, 10, 0, Word.shifted(Word.xor(0, 1, 2), 0, 2));
        is("or moved right", 2, 0, 10, 0, Word.shifted(Word.or(0, 31, 2), 1, 2));
        is("or moved right with sign", -3, 0, -10, 0, Word.shifted(Word.or(0, 31, 2), 2, 2));
        is("or moved round", 5L << 62 | 1, 0, 5, 0, Word.shifted(Word.or(0, 31, 2), 3, 2));
        is("or moved round by 0", 5, 0, 5, 0, Word.shifted(Word.or(0, 31, 2), 3, 0));
        is("of words moved round", 0x40000001L, 0, 5, 0, Word.narrow(Word.shifted(Word.or(0, 31, 2), 3, 2)));
        is("a word below 0 moved round", 0x78000001L, 0, 0xF0000002L | 5L << 40, 0,
            Word.narrow(Word.shifted(Word.or(0, 31, 2), 3, 1)));
        is("a long below 0 moved round", 0x7800000000000001L, 0, 0xF000000000000002L, 0,
            Word.shifted(Word.or(0, 31, 2), 3, 1));
        is("a word below 0 moved right", 0x78000001L, 0, 0xF0000002L, 0,
            Word.narrow(Word.shifted(Word.or(0, 31, 2), 1, 1)));
        is("of words moved round by 0", 5, 0, 5L | 1L << 33, 0, Word.narrow(Word.shifted(Word.or(0, 31, 2), 3, 0)));
        is("turned over behind moving", ~40L, 0, 10, 0, Word.turned(Word.shifted(Word.or(0, 31, 2), 0, 2)));
        flags("and with flags, 0", 4, 12, 3, Word.ands(0, 1, 2));
        flags("and with flags, below 0", 8, -1, TOP, Word.ands(0, 1, 2));
        flags("and with flags of words", 8, -1, 0x80000000L, Word.narrow(Word.ands(0, 1, 2)));
        flags("and with flags of words, 0", 4, -1, 1L << 32, Word.narrow(Word.ands(0, 1, 2)));
        flags("C and V become 0", 0, TOP, 1, Word.subs(0, 1, 2), Word.ands(0, 2, 2));
    }

    private static void moves() {
        is("that", 0xABCD0000L, 0, 0, 0, Word.movz(0, 0xABCD, 1));
        is("that, by 48", 0xABCDL << 48, 0, 0, 0, Word.movz(0, 0xABCD, 3));
        is("turned over", ~0xABCD0000L, 0, 0, 0, Word.movn(0, 0xABCD, 1));
        is("turned over, words", 0x5432FFFFL, 0, 0, 0, Word.narrow(Word.movn(0, 0xABCD, 1)));
        is("16 bits of d", 0x1111ABCD33334444L, 0, 0, 0, Word.movz(0, 0x4444, 0), Word.movk(0, 0x3333, 1),
            Word.movk(0, 0x2222, 2), Word.movk(0, 0x1111, 3), Word.movk(0, 0xABCD, 2));
        is("16 bits of a word", 0x22221111L, 0, 0, 0, Word.movn(0, 0, 0), Word.narrow(Word.movk(0, 0x1111, 0)),
            Word.narrow(Word.movk(0, 0x2222, 1)));
        is("to 31", 3, 3, 0, 0, Word.movz(31, 7, 0), Word.add(0, 31, 1));
    }

    private static void products() {
        is("a + n m", 5 + 6 * 7, 6, 7, 5, Word.madd(0, 1, 2, 3));
        is("a - n m", 5 - 6 * 7, 6, 7, 5, Word.msub(0, 1, 2, 3));
        is("of words", 0xFFFFFFFFL & 5 - 6 * 7, 6, 7, 5, Word.narrow(Word.msub(0, 1, 2, 3)));
        is("wraps", 1L << 32, 1L << 48, 1L << 48, 1L << 32, Word.madd(0, 1, 2, 3));
        is("of words, high bits", 1, 1L << 32 | 1, 1, 0, Word.narrow(Word.madd(0, 1, 2, 31)));
    }

    private static void quotients() {
        is("without sign", 0x5555555555555555L, -1, 3, 0, Word.two(0, 1, 2, 2));
        is("without sign, even", 4, 9, 2, 0, Word.two(0, 1, 2, 2));
        is("without sign, even and great", 0x7FFFFFFFFFFFFFFEL, -3, 2, 0, Word.two(0, 1, 2, 2));
        is("without sign by what is great", 1, -1, -2, 0, Word.two(0, 1, 2, 2));
        is("without sign of what is less", 0, -3, -2, 0, Word.two(0, 1, 2, 2));
        is("without sign by 1", -7, -7, 1, 0, Word.two(0, 1, 2, 2));
        is("without sign, an odd half", (-7L >>> 1) / 5 * 2 + 1, -7, 5, 0, Word.two(0, 1, 2, 2));
        is("without sign by 0", 0, -1, 0, 0, Word.two(0, 1, 2, 2));
        is("without sign of words", 0x55555555L, -1, 3, 0, Word.narrow(Word.two(0, 1, 2, 2)));
        is("of a word with bits above", 3, 1L << 32 | 7, 2, 0, Word.narrow(Word.two(0, 1, 2, 2)));
        is("words by a high bit alone", 0, 7, 1L << 32, 0, Word.narrow(Word.two(0, 1, 2, 2)));
        is("with sign", -2, -7, 3, 0, Word.two(0, 1, 2, 3));
        is("with sign by 0", 0, -7, 0, 0, Word.two(0, 1, 2, 3));
        is("the least by -1", TOP, TOP, -1, 0, Word.two(0, 1, 2, 3));
        is("by -1", 7, -7, -1, 0, Word.two(0, 1, 2, 3));
        is("with sign of words", 0xFFFFFFFEL, 0xFFFFFFF9L, 3, 0, Word.narrow(Word.two(0, 1, 2, 3)));
        is("the least word by -1", 0x80000000L, 0x80000000L, 0xFFFFFFFFL, 0, Word.narrow(Word.two(0, 1, 2, 3)));
    }

    private static void shifts() {
        is("left", 10, 5, 65, 0, Word.two(0, 1, 2, 8));
        is("left of words", 10, 5, 33, 0, Word.narrow(Word.two(0, 1, 2, 8)));
        is("right", 1, TOP, 63, 0, Word.two(0, 1, 2, 9));
        is("right of words", 1, -1, 31, 0, Word.narrow(Word.two(0, 1, 2, 9)));
        is("right with sign", -1, TOP, 127, 0, Word.two(0, 1, 2, 10));
        is("right with sign of words", 0xFFFFFFFFL, 0x80000000L, 31, 0, Word.narrow(Word.two(0, 1, 2, 10)));
        is("by 64", 5, 5, 64, 0, Word.two(0, 1, 2, 9));
        is("by -1", TOP, 1, -1, 0, Word.two(0, 1, 2, 8));
    }

    /** Which of the conditions 0 to 13 hold, as bits. */
    private static void conditions(String what, int due, long x1, long x2, int setting) {
        for (int condition = 0; condition < 14; condition++) {
            is(what + ", condition " + condition, due >> condition & 1, x1, x2, 0, setting,
                Word.chooseMore(0, 31, 31, condition ^ 1));
        }
    }

    private static int bitsOf(int... conditions) {
        int bits = 0;
        for (int c : conditions) {
            bits |= 1 << c;
        }
        return bits;
    }

    private static void choices() {
        int compare = Word.subs(31, 1, 2);
        conditions("5 and 5", bitsOf(0, 2, 5, 7, 9, 10, 13), 5, 5, compare);
        conditions("6 and 5", bitsOf(1, 2, 5, 7, 8, 10, 12), 6, 5, compare);
        conditions("4 and 5", bitsOf(1, 3, 4, 7, 9, 11, 13), 4, 5, compare);
        conditions("least and 1", bitsOf(1, 2, 5, 6, 8, 11, 13), TOP, 1, compare);
        conditions("0 and least", bitsOf(1, 3, 4, 6, 9, 10, 12), 0, TOP, compare);
        is("n", 5, 5, 7, 0, Word.choose(0, 1, 2, Word.NE));
        is("m", 7, 5, 7, 0, Word.choose(0, 1, 2, Word.EQ));
        is("m + 1", 8, 5, 7, 0, Word.chooseMore(0, 1, 2, Word.EQ));
        is("n with bit 10", 5, 5, 7, 0, Word.chooseMore(0, 1, 2, Word.NE));
        is("m + 1 wraps", 0, 5, -1, 0, Word.chooseMore(0, 1, 2, Word.EQ));
        is("m + 1 of words", 0, 5, -1, 0, Word.narrow(Word.chooseMore(0, 1, 2, Word.EQ)));
        is("n of words", 0xFFFFFFFFL, -1, 0, 0, Word.narrow(Word.choose(0, 1, 2, Word.NE)));
    }

    private static Prog withData() {
        Prog p = begin();
        for (int i = 0; i < 64; i++) {
            p.data.get(0)[i] = (byte) (0x81 + i);
        }
        return p.dataAddress(9, 0, 0);
    }

    private static void loaded(String what, long due, int... words) {
        Prog p = withData();
        p.number(1, 5).number(2, 2).number(3, -2).put(words).exit().label("stay").b("stay");
        CodeLayout x = finish(p);
        for (int which = 0; which < 3; which++) {
            Due.is(what, x.register(which, 0), due);
        }
    }

    private static void loadsAndStores() {
        loaded("a byte", 0x82, Word.load(0, 0, 9, 1));
        loaded("a word", 0x88878685L, Word.load(2, 0, 9, 4));
        loaded("a long", 0x908F8E8D8C8B8A89L, Word.load(3, 0, 9, 8));
        loaded("a word with sign", 0xFFFFFFFF88878685L, Word.loadSigned(0, 9, 4));
        loaded("a byte at a register", 0x86, Word.loadAt(0, 0, 9, 1, false));
        loaded("a word at a register", 0x89888786L, Word.loadAt(2, 0, 9, 1, false));
        loaded("a word at a register, times 4", 0x8C8B8A89L, Word.loadAt(2, 0, 9, 2, true));
        loaded("a long at a register, times 8", 0x9897969594939291L, Word.loadAt(3, 0, 9, 2, true));
        loaded("a byte, times 1", 0x86, Word.loadAt(0, 0, 9, 1, true));
        loaded("at a register below 0", 0x83, Word.addNumber(9, 9, 4), Word.loadAt(0, 0, 9, 3, false));
        loaded("at a register below 0, times 4", 0x84838281L, Word.addNumber(9, 9, 8), Word.loadAt(2, 0, 9, 3, true));
        loaded("a word with sign at a register", 0xFFFFFFFF89888786L, 0xB8A06800 | 1 << 16 | 9 << 5);
        loaded("to 31", 0, Word.load(3, 31, 9, 0), Word.add(0, 31, 31));
        loaded("at SP", 0x55, Word.movz(4, 0x55, 0), Word.subNumber(31, 31, 16), Word.store(3, 4, 31, 8),
            Word.load(0, 0, 31, 8));
        loaded("a byte stored", 0x8887868584830581L, Word.store(0, 1, 9, 1), Word.load(3, 0, 9, 0));
        loaded("a word stored", 0x8887868500000005L, Word.store(2, 1, 9, 0), Word.load(3, 0, 9, 0));
        loaded("a long stored at a register", 0x0000000000058281L, Word.storeAt(3, 1, 9, 2, false),
            Word.load(3, 0, 9, 0));
        loaded("31 stored is 0", 0x8887868500000000L, Word.store(2, 31, 9, 0), Word.load(3, 0, 9, 0));
        unaligned();
    }

    private static void unaligned() {
        Prog p = withData();
        p.number(1, 0x1122334455667788L).put(Word.movz(2, 5, 0), Word.storeAt(3, 1, 9, 2, false));
        p.put(Word.loadAt(3, 0, 9, 2, false)).exit().label("stay").b("stay");
        CodeLayout x = finish(p);
        long a = p.dataAddress(0);
        for (int which = 0; which < 3; which++) {
            Due.is("what was stored", x.register(which, 0), 0x1122334455667788L);
            Due.is("before", x.memory(which, a + 4), 0x85);
            for (int i = 0; i < 8; i++) {
                Due.is("its bytes", x.memory(which, a + 5 + i), 0x88 - 0x11 * i);
            }
            Due.is("behind", x.memory(which, a + 13), 0x8E);
        }
    }

    private static void pairs() {
        long low = 0x8887868584838281L;
        long step = 0x0808080808080808L;
        loaded("n's place", low + step + low, Word.addNumber(4, 9, 8), Word.loadPair(1, 5, 6, 4, -8),
            Word.load(3, 7, 4, 0), Word.add(0, 5, 7));
        loaded("the second", low + 2 * step, Word.addNumber(4, 9, 8), Word.loadPair(1, 5, 0, 4, -8));
        loaded("n and the number", low + 3 * step, Word.loadPair(2, 0, 6, 9, 24));
        loaded("n stays", low, Word.loadPair(2, 5, 6, 9, 24), Word.load(3, 0, 9, 0));
        loaded("n becomes that", low + step, Word.addNumber(4, 9, 24), Word.loadPair(3, 5, 6, 4, -16),
            Word.load(3, 0, 4, 0));
        loaded("the first of that", low + step, Word.addNumber(4, 9, 24), Word.loadPair(3, 0, 6, 4, -16));
        loaded("to 31 and another", low + step, Word.loadPair(2, 31, 0, 9, 0));
        loaded("stored", 5, Word.storePair(2, 2, 1, 9, 16), Word.load(3, 0, 9, 24));
        loaded("stored at SP", 2147483648L - 512, Word.storePair(3, 1, 2, 31, -512), Word.addNumber(0, 31, 0));
        loaded("and back", 7, Word.storePair(3, 1, 2, 31, -512), Word.loadPair(1, 4, 5, 31, 504), Word.add(0, 4, 5));
        loaded("SP behind", 2147483648L - 8, Word.storePair(3, 1, 2, 31, -512), Word.loadPair(1, 4, 5, 31, 504),
            Word.addNumber(0, 31, 0));
        loaded("one register twice", 2, Word.storePair(2, 2, 2, 9, 0), Word.load(3, 0, 9, 8));
    }

    private static void goes(String what, boolean due, Prog p) {
        p.movz0().exit().label("there").put(Word.movz(0, 1, 0)).exit().label("stay").b("stay");
        CodeLayout x = finish(p);
        Due.is(what, x.register(0, 0), due ? 1 : 0);
        Due.is(what, x.register(2, 0), due ? 1 : 0);
    }

    private static void goings() {
        goes("CBZ of 0", true, begin().number(1, 0).cbz(1, "there"));
        goes("CBZ of a high bit", false, begin().number(1, TOP).cbz(1, "there"));
        goes("CBZ of a word", true, begin().number(1, TOP).cbzWord(1, "there"));
        goes("CBNZ of a high bit", true, begin().number(1, TOP).cbnz(1, "there"));
        goes("CBNZ of 0", false, begin().number(1, 0).cbnz(1, "there"));
        goes("CBZ of 31", true, begin().cbz(31, "there"));
        goes("TBZ", true, begin().number(1, ~8L).tbz(1, 3, "there"));
        goes("TBZ, bit set", false, begin().number(1, 8).tbz(1, 3, "there"));
        goes("TBNZ of bit 63", true, begin().number(1, TOP).tbnz(1, 63, "there"));
        goes("TBNZ of bit 32", false, begin().number(1, ~(1L << 32)).tbnz(1, 32, "there"));
        goes("TBZ of 31", true, begin().tbz(31, 63, "there"));
        goes("B.cond", true, begin().put(Word.subs(31, 31, 31)).bcond(Word.EQ, "there"));
        goes("B.cond that does not hold", false, begin().put(Word.subs(31, 31, 31)).bcond(Word.LT, "there"));
        goes("B", true, begin().b("there"));
        goes("BR", true, begin().codeAddress(3, "there").put(Word.br(3)));
        goes("RET by another register", true, begin().codeAddress(3, "there").put(Word.ret(3)));
        goes("BLR by X30 itself", true, begin().codeAddress(30, "there").put(Word.blr(30)));
        Prog p = begin();
        p.bl("g").put(Word.addNumber(0, 0, 1)).exit().label("stay").b("stay");
        p.function("g").put(Word.movz(0, 40, 0), Word.ret(30));
        CodeLayout x = finish(p);
        Due.is("BL and RET", x.register(0, 0), 41);
        Due.is("X30", x.register(0, 30), p.textAddress() + 4);
        Prog q = begin();
        q.codeAddress(30, "g").put(Word.blr(30)).label("back").exit().label("stay").b("stay");
        q.function("g").put(Word.copy(5, 30), Word.ret(30));
        CodeLayout y = finish(q);
        Due.is("BLR makes X30 what is behind it", y.register(0, 5), q.address("back"));
        Due.is("in run 1 too", y.register(1, 5), q.address("back"));
    }

    private static void calls() {
        CodeLayout x = exec(3, 4, 5, Word.movz(0, 9, 0), Word.movz(8, 1, 0), Word.CALL);
        Due.is("another call", x.register(0, 0), -38);
        Due.is("calls", x.told(0, 3), 2);
        long[] due = {1, 9, 3, 4};
        for (int what = 0; what < 4; what++) {
            Due.is("trace", x.trace(0, 0, what), due[what]);
        }
        due = new long[] {93, -38, 3, 4};
        for (int what = 0; what < 4; what++) {
            Due.is("trace of the end", x.trace(0, 1, what), due[what]);
        }
        Due.is("the end leaves X0", x.register(0, 0), -38);
        Due.is("trace(0, 2, 0)", x.trace(0, 2, 0), 0);
        Due.is("trace(0, 0, 4)", x.trace(0, 0, 4), 0);
        Due.is("trace(0, 0, -1)", x.trace(0, 0, -1), 0);
        Due.is("trace(0, -1, 0)", x.trace(0, -1, 0), 0);
    }

    /** SP holds a long: all of it, or of a word's sum the lowest 4 bytes with 0 above. */
    private static void sumsInSp() {
        long[] values = {1L << 40 | 5, -1, TOP, TOP | 3, 0xFFFFFFFFL, 4294967296L, 0};
        for (long value : values) {
            CodeLayout x = exec(value, 0, 0, Word.addNumber(31, 1, 7), Word.addNumber(0, 31, 1));
            CodeLayout y = exec(value, 0, 0, Word.narrow(Word.addNumber(31, 1, 7)), Word.addNumber(0, 31, 1));
            CodeLayout z = exec(value, 0, 0, Word.subNumber(31, 1, 9), Word.narrow(Word.addNumber(0, 31, 0)));
            for (int which = 0; which < 3; which++) {
                Due.is("SP", x.register(which, 31), value + 7);
                Due.is("SP and 1", x.register(which, 0), value + 8);
                Due.is("SP of a word", y.register(which, 31), value + 7 & 0xFFFFFFFFL);
                Due.is("SP of a word and 1", y.register(which, 0), (value + 7 & 0xFFFFFFFFL) + 1);
                Due.is("SP less 9", z.register(which, 31), value - 9);
                Due.is("as a word", z.register(which, 0), value - 9 & 0xFFFFFFFFL);
            }
        }
    }
}
