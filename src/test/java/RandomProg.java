import java.util.Random;

/**
 * A program of random functions that ends, and tells its registers before. X28 is what is left to go, X16 the first
 * data segment, X17 the second one, X9 holds code, X8 the calls' numbers; all others are numbers.
 */
final class RandomProg {
    static final int TELL_BYTES = 256;
    private static final int TELL_AT = 256;
    private static final int SCRATCH = 128;
    private static final int[] NUMBERS = {0, 1, 2, 3, 4, 5, 6, 7, 10, 11, 12, 13, 14, 15, 18, 19, 20, 21, 22, 23, 24};

    final Prog prog = new Prog();
    private final Random random;
    private final int functions;
    private final int[] blocks;
    private int pointers;

    RandomProg(long seed) {
        random = new Random(seed);
        functions = 1 + random.nextInt(4);
        blocks = new int[functions];
        prog.data(6, TELL_AT + TELL_BYTES);
        prog.data(4, 64);
        prog.noteBytes = random.nextInt(2) * 5;
        for (int i = 0; i < 64; i++) {
            prog.data.get(1)[i] = (byte) random.nextInt();
        }
        for (int f = 0; f < functions; f++) {
            blocks[f] = 2 + random.nextInt(6);
        }
        if (random.nextBoolean()) {
            begin();
        }
        for (int f = 0; f < functions; f++) {
            function(f);
        }
        leave();
        if (prog.entry == null) {
            begin();
        }
        if (random.nextInt(3) == 0) {
            prog.noFix();
        }
    }

    private String label(int f, int b) {
        return "f" + f + "b" + b;
    }

    private int reg() {
        return NUMBERS[random.nextInt(NUMBERS.length)];
    }

    private int regOrZero() {
        return random.nextInt(8) == 0 ? 31 : reg();
    }

    private void function(int f) {
        prog.function("f" + f);
        prog.put(Word.storePair(3, 29, 30, 31, -16));
        for (int b = 0; b < blocks[f]; b++) {
            prog.label(label(f, b));
            int many = random.nextInt(5);
            for (int i = 0; i < many; i++) {
                work();
            }
            end(f, b);
        }
        prog.label("leave" + f);
        if (random.nextBoolean()) {
            prog.b("leave");
        } else {
            prog.bFixed("leave");
        }
    }

    private void begin() {
        prog.entry = "begin";
        prog.function("begin");
        prog.number(28, 60 + random.nextInt(60));
        prog.put(Word.subsNumber(31, 28, 1));
        prog.dataAddress(16, 0, 0);
        prog.dataAddress(17, 1, 0);
        for (int k : NUMBERS) {
            prog.number(k, random.nextInt(4) == 0 ? random.nextInt(5) - 2 : random.nextLong());
        }
        prog.b("f0");
    }

    /** Counts one down, and leaves if nothing is left. */
    private void spend(int f) {
        prog.put(Word.subNumber(28, 28, 1)).cbz(28, "leave" + f);
    }

    private void end(int f, int b) {
        int to = random.nextInt(blocks[f]);
        String next = b + 1 < blocks[f] ? label(f, b + 1) : "leave" + f;
        switch (random.nextInt(11)) {
            case 0:
                spend(f);
                if (random.nextInt(3) > 0) {
                    work();
                }
                if (random.nextBoolean()) {
                    prog.b(label(f, to));
                } else {
                    prog.bFixed(label(f, to));
                }
                break;
            case 1:
                spend(f);
                prog.bcond(random.nextInt(14), label(f, to));
                break;
            case 2:
                spend(f);
                prog.cbz(reg(), label(f, to));
                break;
            case 3:
                spend(f);
                prog.cbnz(reg(), label(f, to)).cbzWord(reg(), next);
                break;
            case 4:
                spend(f);
                prog.tbz(reg(), random.nextInt(64), label(f, to));
                break;
            case 5:
                spend(f);
                prog.tbnz(reg(), random.nextInt(64), label(f, to));
                break;
            case 6:
                spend(f);
                prog.blFixed("f" + random.nextInt(functions));
                break;
            case 7:
                spend(f);
                prog.codeAddress(9, "f" + random.nextInt(functions)).put(Word.blr(9));
                break;
            case 8:
                spend(f);
                goByTable(f, to);
                break;
            case 9:
                if (f > 0) {
                    prog.put(Word.loadPair(1, 29, 30, 31, 16), Word.ret(30));
                }
                break;
            default:
                prog.b(random.nextInt(3) > 0 && b + 2 < blocks[f] ? label(f, b + 2) : next);
                break;
        }
    }

    private void goByTable(int f, int to) {
        int at = 8 * (pointers++ % 12);
        if (pointers <= 12) {
            prog.pointer(0, at, label(f, to));
            prog.put(Word.load(3, 9, 16, at), Word.br(9));
        } else {
            prog.codeAddress(9, label(f, to)).put(Word.copy(20, 31), Word.br(9));
        }
    }

    private int maybeNarrow(int w) {
        return random.nextInt(3) == 0 ? Word.narrow(w) : w;
    }

    private void work() {
        switch (random.nextInt(14)) {
            case 0:
                addNumber();
                break;
            case 1:
            case 2:
                addOrAnd();
                break;
            case 3:
                move();
                break;
            case 4:
                prog.put(maybeNarrow(random.nextBoolean() ? Word.madd(regOrZero(), reg(), regOrZero(), regOrZero())
                    : Word.msub(reg(), reg(), reg(), regOrZero())));
                break;
            case 5:
            case 6:
                int[] whats = {2, 3, 8, 9, 10};
                prog.put(maybeNarrow(Word.two(regOrZero(), regOrZero(), regOrZero(), whats[random.nextInt(5)])));
                break;
            case 7:
                prog.put(maybeNarrow(Word.choose(regOrZero(), regOrZero(), regOrZero(), random.nextInt(14))
                    | random.nextInt(2) << 10));
                break;
            case 8:
            case 9:
                loadOrStore();
                break;
            case 10:
                loadOrStoreAt();
                break;
            case 11:
                pair();
                break;
            case 12:
                if (random.nextInt(4) == 0) {
                    prog.put(Word.movz(8, 1000 + random.nextInt(10), 0), Word.CALL);
                } else {
                    prog.put(Word.NOP);
                }
                break;
            default:
                fixedLoad();
                break;
        }
    }

    private void addNumber() {
        int w = Word.addNumber(reg(), reg(), random.nextInt(4096));
        w |= random.nextInt(2) << 30 | random.nextInt(2) << 29 | random.nextInt(2) << 22;
        prog.put(maybeNarrow(w));
    }

    private void addOrAnd() {
        boolean narrow = random.nextInt(3) == 0;
        int amount = random.nextInt(narrow ? 32 : 64);
        int w;
        if (random.nextBoolean()) {
            w = Word.shifted(Word.add(regOrZero(), regOrZero(), regOrZero()), random.nextInt(3), amount);
            w |= random.nextInt(2) << 30 | random.nextInt(2) << 29;
        } else {
            w = Word.shifted(Word.and(regOrZero(), regOrZero(), regOrZero()), random.nextInt(4), amount);
            w |= random.nextInt(4) << 29 | random.nextInt(2) << 21;
        }
        prog.put(narrow ? Word.narrow(w) : w);
    }

    private void move() {
        boolean narrow = random.nextInt(3) == 0;
        int by = random.nextInt(narrow ? 2 : 4);
        int number = random.nextInt(65536);
        int how = random.nextInt(3);
        int d = regOrZero();
        int w = how == 0 ? Word.movz(d, number, by) : how == 1 ? Word.movn(d, number, by) : Word.movk(d, number, by);
        prog.put(narrow ? Word.narrow(w) : w);
    }

    private int width() {
        int[] widths = {0, 2, 3};
        return widths[random.nextInt(3)];
    }

    private void loadOrStore() {
        int width = width();
        int offset = SCRATCH + (random.nextInt(64) >> width << width);
        if (random.nextInt(4) == 0) {
            prog.put(Word.loadSigned(regOrZero(), 16, offset & ~3));
        } else if (random.nextBoolean()) {
            prog.put(Word.load(width, regOrZero(), 16, offset));
        } else {
            prog.put(Word.store(width, regOrZero(), 16, offset));
        }
    }

    private void loadOrStoreAt() {
        int width = width();
        int at = reg();
        boolean times = random.nextBoolean();
        int number = SCRATCH + random.nextInt(64);
        prog.put(Word.movz(at, times ? number >> width : number, 0));
        prog.put(random.nextBoolean() ? Word.loadAt(width, regOrZero(), 16, at, times)
            : Word.storeAt(width, regOrZero(), 16, at, times));
    }

    private void pair() {
        int d = NUMBERS[random.nextInt(10)];
        int a = NUMBERS[10 + random.nextInt(10)];
        int base = 25;
        int how = 1 + random.nextInt(3);
        int number = 8 * (random.nextInt(6) - 3);
        prog.put(Word.addNumber(base, 16, SCRATCH + 32));
        prog.put(random.nextBoolean() ? Word.loadPair(how, d, a, base, number)
            : Word.storePair(how, d, a, base, number));
        prog.put(Word.sub(26, base, 16));
    }

    private void fixedLoad() {
        int[] types = {278, 285, 286};
        int[] widths = {0, 2, 3};
        int k = random.nextInt(3);
        int offset = random.nextInt(56) & ~7;
        prog.dataPage(27, 1, offset);
        prog.dataLow(Word.load(widths[k], reg(), 27, 0), types[k], 1, offset);
    }

    private void leave() {
        prog.function("leave");
        for (int k = 0; k < 8; k += 2) {
            prog.put(Word.storePair(2, k, k + 1, 16, TELL_AT + 8 * k));
        }
        int at = 64;
        for (int k = 10; k <= 24; k++) {
            if (k != 16 && k != 17) {
                prog.put(Word.store(3, k, 16, TELL_AT + at));
                at += 8;
            }
        }
        int[] flags = {Word.MI, Word.EQ, Word.CS, Word.VS};
        for (int flag : flags) {
            prog.put(Word.chooseMore(10, 31, 31, flag ^ 1), Word.store(3, 10, 16, TELL_AT + at));
            at += 8;
        }
        prog.put(Word.store(3, 28, 16, TELL_AT + at));
        prog.put(Word.movz(0, 1, 0), Word.addNumber(1, 16, SCRATCH), Word.movz(2, TELL_AT - SCRATCH + TELL_BYTES, 0));
        prog.put(Word.movz(8, 64, 0), Word.CALL, Word.movz(0, 0, 0)).exit();
        prog.label("stay").b("stay");
    }
}
