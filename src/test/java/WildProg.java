import java.util.Random;

/** A program of random words: it keeps all rules of a file, but may fault, stop, go astray, or go on without end. */
final class WildProg {
    private static final int[] REGISTERS = {0, 1, 2, 3, 4, 5, 6, 7, 8, 9, 10, 11, 12, 30, 31};

    final Prog prog = new Prog();
    private final Random random;
    private final int functions;
    private final int blocks;
    /** How many of a hundred words are as likely as not to fault or to stop. */
    private final int wildness;

    WildProg(long seed) {
        random = new Random(seed);
        functions = 1 + random.nextInt(3);
        blocks = 1 + random.nextInt(5);
        wildness = random.nextInt(4) == 0 ? 60 : 1 + random.nextInt(12);
        prog.data(6, 48 + random.nextInt(40));
        prog.data(4, 24 + random.nextInt(17));
        if (random.nextInt(3) == 0) {
            prog.data(6, 16 + random.nextInt(9));
        }
        for (byte[] bytes : prog.data) {
            random.nextBytes(bytes);
        }
        prog.function("begin");
        begin();
        for (int f = 0; f < functions; f++) {
            prog.function("f" + f);
            for (int b = 0; b < blocks; b++) {
                prog.label(label(f, b));
                int words = random.nextInt(7);
                for (int i = 0; i < words; i++) {
                    work();
                }
                end(f, b);
            }
        }
        for (int i = 0; i < 3; i++) {
            prog.pointer(0, 8 * (2 * i + 1), anyLabel());
        }
        prog.pointer(1, 8, anyLabel());
        prog.pointerToData(0, 16, random.nextInt(prog.data.size()), random.nextInt(16));
    }

    private String label(int f, int b) {
        return "f" + f + "b" + b;
    }

    private String anyLabel() {
        return label(random.nextInt(functions), random.nextInt(blocks));
    }

    /** X9 and X12 are data, X10 data that may not be written, X3 and X4 code. */
    private void begin() {
        prog.dataAddress(9, 0, 8 * random.nextInt(3)).dataAddress(10, 1, 0).dataAddress(12, 0, 8);
        prog.codeAddress(3, anyLabel()).put(Word.load(3, 4, 12, 0));
        for (int k : new int[] {0, 1, 2, 5, 6, 7, 11}) {
            prog.number(k, number());
        }
        prog.b("f0");
    }

    private long number() {
        switch (random.nextInt(9)) {
            case 0:
                return random.nextLong();
            case 1:
                return random.nextInt();
            case 2:
                return prog.dataAddress(random.nextInt(prog.data.size())) + random.nextInt(100) - 10;
            case 3:
                return 2147483648L - random.nextInt(40);
            case 4:
                return textNumber();
            case 5:
                return Long.MIN_VALUE >> random.nextInt(64);
            default:
                return random.nextInt(20) - 3;
        }
    }

    /** Around the TEXT's first word, or in it, mostly a multiple of 4. */
    private long textNumber() {
        return prog.textAddress() + random.nextInt(400) - 20 & (random.nextInt(4) > 0 ? -4 : -1);
    }

    /** A register to go to: one with CODE, any, or one with an address that is a number. */
    private int goal() {
        switch (random.nextInt(6)) {
            case 0:
                return reg();
            case 1:
                prog.number(7, textNumber());
                return 7;
            default:
                return codeReg();
        }
    }

    private int reg() {
        return REGISTERS[random.nextInt(REGISTERS.length)];
    }

    private int numberReg() {
        int[] some = {0, 1, 2, 5, 6, 7, 11, 31};
        return some[random.nextInt(some.length)];
    }

    private int codeReg() {
        int[] some = {3, 4, 30};
        return some[random.nextInt(some.length)];
    }

    private void work() {
        if (random.nextInt(100) < wildness) {
            wild();
        } else {
            tame();
        }
    }

    private int width() {
        int[] widths = {0, 2, 3, 3};
        return widths[random.nextInt(widths.length)];
    }

    /** Mostly neither faults nor stops. */
    private void tame() {
        int d = numberReg();
        int n = numberReg();
        int m = numberReg();
        switch (random.nextInt(22)) {
            case 0:
                prog.put(Word.copy(codeReg(), codeReg()));
                break;
            case 1:
                prog.put(Word.choose(codeReg(), codeReg(), codeReg(), random.nextInt(14)));
                break;
            case 2:
                prog.put(Word.storePair(3, codeReg(), numberReg(), 31, -16));
                break;
            case 3:
                prog.put(Word.store(3, codeReg(), 12, 0));
                break;
            case 4:
                prog.put(Word.load(3, codeReg(), 12, 8 * (2 * random.nextInt(2))));
                break;
            case 5:
                prog.codeAddress(codeReg(), anyLabel());
                break;
            case 6:
                prog.put(Word.movz(2, random.nextInt(9), 0), Word.copy(1, 12), Word.movz(0, 3, 0), Word.movz(8, 64, 0),
                    Word.addNumber(1, 1, 8), Word.CALL);
                break;
            case 7:
                prog.number(random.nextInt(8) == 0 ? 9 : d == 31 ? 5 : d, number());
                break;
            case 8:
                prog.put(random.nextBoolean() ? Word.load(width(), d, 10, 0) : Word.load(width(), d, 12, 8));
                break;
            case 9:
                prog.put(Word.store(width(), d, 12, 8));
                break;
            default:
                prog.put(arithmetic(d, n, m));
                break;
        }
    }

    private int arithmetic(int d, int n, int m) {
        int w;
        switch (random.nextInt(10)) {
            case 0:
                w = Word.addNumber(d == 31 ? 5 : d, n == 31 ? 5 : n, random.nextInt(4096)) | random.nextInt(4) << 29
                    | random.nextInt(2) << 22;
                break;
            case 1:
            case 2:
                w = Word.shifted(Word.add(d, n, m), random.nextInt(3), random.nextInt(32)) | random.nextInt(4) << 29;
                break;
            case 3:
            case 4:
                w = Word.shifted(Word.and(d, n, m), random.nextInt(4), random.nextInt(32)) | random.nextInt(4) << 29
                    | random.nextInt(2) << 21;
                break;
            case 5:
                w = 0x92800000 | (random.nextInt(2) == 0 ? 0 : 2 + random.nextInt(2)) << 29 | random.nextInt(2) << 21
                    | random.nextInt(65536) << 5 | d;
                break;
            case 6:
                w = Word.madd(d, n, m, numberReg()) | random.nextInt(2) << 15;
                break;
            case 7:
                int[] kinds = {2, 3, 8, 9, 10};
                w = Word.two(d, n, m, kinds[random.nextInt(5)]);
                break;
            default:
                w = Word.choose(d, n, m, random.nextInt(14)) | random.nextInt(2) << 10;
                break;
        }
        return random.nextBoolean() ? Word.narrow(w) : w;
    }

    private void wild() {
        switch (random.nextInt(12)) {
            case 0:
                prog.put(Word.load(width(), reg(), reg(), 8 * random.nextInt(9)));
                break;
            case 1:
                prog.put(Word.store(width(), reg(), reg(), 8 * random.nextInt(9)));
                break;
            case 2:
                prog.put(Word.loadAt(width(), reg(), reg(), reg(), random.nextBoolean()));
                break;
            case 3:
                prog.put(Word.storeAt(width(), reg(), reg(), reg(), random.nextBoolean()));
                break;
            case 4:
            case 5:
                pair();
                break;
            case 6:
                prog.codePage(reg(), anyLabel());
                break;
            case 7:
                prog.codeLow(reg(), reg(), anyLabel());
                break;
            case 8:
                prog.put(Word.CALL);
                break;
            case 9:
                prog.put(Word.addNumber(reg(), reg(), random.nextInt(64)));
                break;
            case 10:
                prog.put(Word.loadSigned(reg(), reg(), 4 * random.nextInt(9)));
                break;
            default:
                prog.put(arithmetic(reg(), reg(), reg()));
                break;
        }
    }

    private void pair() {
        int how = 1 + random.nextInt(3);
        int d = reg();
        int a = reg();
        int n = random.nextBoolean() ? 31 : reg();
        boolean loads = random.nextBoolean();
        boolean fits = (how == 2 || n == 31 || n != d && n != a) && !(loads && d == a);
        int number = 8 * (random.nextInt(9) - 4);
        if (fits) {
            prog.put(loads ? Word.loadPair(how, d, a, n, number) : Word.storePair(how, d, a, n, number));
        }
    }

    private void end(int f, int b) {
        boolean last = b + 1 == blocks;
        String to = label(f, random.nextInt(blocks));
        switch (random.nextInt(last ? 5 : 14)) {
            case 0:
                prog.b(to);
                break;
            case 1:
                prog.put(Word.br(goal()));
                break;
            case 2:
                prog.put(Word.ret(random.nextInt(3) == 0 ? goal() : 30));
                break;
            case 3:
                prog.b("f" + random.nextInt(functions));
                break;
            case 4:
                prog.exit().b(to);
                break;
            case 5:
            case 6:
                prog.bl("f" + random.nextInt(functions));
                break;
            case 7:
                prog.put(Word.blr(goal()));
                break;
            case 8:
                prog.bcond(random.nextInt(14), to);
                break;
            case 9:
                prog.cbz(random.nextInt(4) == 0 ? reg() : numberReg(), to);
                break;
            case 10:
                prog.tbnz(random.nextInt(4) == 0 ? reg() : numberReg(), random.nextInt(64), to);
                break;
            case 11:
                prog.cbzWord(numberReg(), to);
                break;
            default:
                break;
        }
    }
}
