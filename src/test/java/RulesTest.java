import java.util.Random;

/** Promises 4 to 8: changed files, set against a slow reading of the document's rules 1 to 12. */
public final class RulesTest {
    private static final long[] ODD = {0, 1, 2, 3, 4, 5, 6, 7, 8, 15, 16, 17, 24, 25, 48, 56, 63, 64, 120, 176, 232, 255,
        256, 257, 275, 276, 277, 278, 282, 283, 284, 285, 286, 4095, 4096, 65520, 65521, 65535, 65536, 134217728,
        4194304, 2147483647L, 2147483648L, 4294967295L, 4294967296L, -1, -2, -3, -4, -8, -16, -24, -64, Long.MIN_VALUE,
        Long.MAX_VALUE};
    private static final int[] STEPS = {-64, -24, -16, -8, -4, -2, -1, 1, 2, 4, 8, 16, 24, 64};
    private static final int[] seen = new int[13];

    public static void main(String[] args) {
        int many = args.length > 0 ? Integer.parseInt(args[0]) : 6000;
        int from = args.length > 1 ? Integer.parseInt(args[1]) : 0;
        for (int seed = from; seed < from + many; seed++) {
            int before = Due.wrongs();
            tryOne(new Random(seed));
            if (Due.wrongs() != before) {
                System.out.println("seed " + seed);
                break;
            }
        }
        for (int rule = 0; rule <= 12; rule++) {
            Due.holds("rule " + rule + " is seen", seen[rule] > 20);
        }
        Due.end("RulesTest");
    }

    private static void tryOne(Random random) {
        Prog prog = random.nextBoolean() ? new WildProg(random.nextInt(40)).prog : new RandomProg(random.nextInt(40)).prog;
        byte[] plain = random.nextInt(3) == 0 ? reordered(prog, random) : prog.file();
        byte[] file = changed(prog, plain, random);
        NaiveRules due = new NaiveRules(file);
        CodeLayout x = new CodeLayout();
        Feeder.feed(x, file);
        Due.is("read()", x.read(), due.rule == 0 ? due.functions.size() : -due.rule);
        Due.is("place()", x.place(), due.place);
        seen[due.rule]++;
        if (due.rule == 0) {
            blocksAgree(x, due);
            Due.holds("same()", x.same());
            Due.holds("lay()", x.lay(64, 64) > 0);
            Due.is("check()", x.check(), 0);
            byte[] laid = Feeder.written(x);
            int again = new NaiveRules(laid).rule;
            Due.holds("the new file keeps rules 1 to 6", again == 0 || again > 6);
        }
    }

    private static byte[] reordered(Prog prog, Random random) {
        int[] to = new int[prog.sections()];
        for (int s = 1; s < to.length; s++) {
            int k = 1 + random.nextInt(s);
            to[s] = to[k];
            to[k] = s;
        }
        return prog.reordered(to);
    }

    private static byte[] changed(Prog prog, byte[] plain, Random random) {
        Bytes file = new Bytes(plain);
        int times = random.nextInt(3);
        for (int i = 0; i < times; i++) {
            change(prog, file, random);
        }
        if (random.nextInt(30) == 0) {
            return java.util.Arrays.copyOf(file.bytes, file.bytes.length + random.nextInt(17) - 8);
        }
        if (random.nextInt(60) == 0) {
            return java.util.Arrays.copyOf(file.bytes, random.nextInt(file.bytes.length));
        }
        return file.bytes;
    }

    private static void change(Prog prog, Bytes file, Random random) {
        int[][] heads = {{16, 2}, {18, 2}, {20, 4}, {24, 8}, {32, 8}, {40, 8}, {48, 4}, {52, 2}, {54, 2}, {56, 2}, {58, 2},
            {60, 2}, {62, 2}, {random.nextInt(16), 1}};
        int[][] segment = {{0, 4}, {4, 4}, {8, 8}, {16, 8}, {24, 8}, {32, 8}, {40, 8}, {48, 8}};
        int[][] section = {{0, 4}, {4, 4}, {8, 8}, {16, 8}, {24, 8}, {32, 8}, {40, 4}, {44, 4}, {48, 8}, {56, 8}};
        int[][] symbol = {{0, 4}, {4, 1}, {5, 1}, {6, 2}, {8, 8}, {16, 8}};
        int[][] fix = {{0, 8}, {8, 4}, {12, 4}, {16, 8}};
        int fixes = (prog.symbolOffset() - prog.fixOffset()) / 24;
        switch (random.nextInt(9)) {
            case 0:
                field(file, 0, heads, random);
                break;
            case 7:
                // The last word of a function.
                int f = random.nextInt(prog.functionStarts.size());
                int behind = f + 1 < prog.functionStarts.size() ? prog.functionStarts.get(f + 1) : prog.words.size();
                word(file, prog.textOffset() + 4 * behind - 4, random);
                break;
            case 1:
                field(file, 64 + 56 * random.nextInt(prog.segments()), segment, random);
                break;
            case 2:
            case 3:
                field(file, prog.sectionHead(random.nextInt(prog.sections())), section, random);
                break;
            case 4:
                field(file, prog.symbolAt(random.nextInt(prog.symbolCount())), symbol, random);
                break;
            case 5:
                field(file, prog.fixOffset() + 24 * random.nextInt(fixes), fix, random);
                break;
            case 6:
                word(file, prog.textOffset() + 4 * random.nextInt(prog.words.size()), random);
                break;
            default:
                int at = prog.dataOffset(0) + random.nextInt(64);
                file.put(at, 1, random.nextInt(256));
                break;
        }
    }

    private static void field(Bytes file, int from, int[][] fields, Random random) {
        int[] f = fields[random.nextInt(fields.length)];
        int at = from + f[0];
        long old = file.get(at, f[1]);
        switch (random.nextInt(4)) {
            case 0:
                file.put(at, f[1], ODD[random.nextInt(ODD.length)]);
                break;
            case 1:
                file.put(at, f[1], old ^ 1L << random.nextInt(8 * f[1]));
                break;
            case 2:
                int[] other = fields[random.nextInt(fields.length)];
                file.put(at, f[1], file.get(from + other[0], other[1]));
                break;
            default:
                file.put(at, f[1], old + STEPS[random.nextInt(STEPS.length)]);
                break;
        }
    }

    private static void word(Bytes file, int at, Random random) {
        int[] some = {Word.NOP, Word.CALL, Word.br(1), Word.blr(2), Word.ret(30), Word.add(1, 2, 3), 0x90000001, 0,
            Prog.B | random.nextInt(24) - 12 & 0x3FFFFFF, Prog.BL | random.nextInt(24) - 12 & 0x3FFFFFF,
            0xB4000000 | (random.nextInt(24) - 12 & 0x7FFFF) << 5, 0x36000000 | (random.nextInt(24) - 12 & 0x3FFF) << 5};
        if (random.nextInt(3) == 0) {
            file.put(at, 4, file.get(at, 4) ^ 1L << random.nextInt(32));
        } else {
            file.put(at, 4, some[random.nextInt(some.length)]);
        }
    }

    private static void blocksAgree(CodeLayout x, NaiveRules due) {
        Due.is("functions", x.count(0), due.functions.size());
        Due.is("blocks", x.count(1), due.blocks.size());
        Due.is("fixes", x.count(4), due.used);
        for (int f = 0; f < due.functions.size(); f++) {
            Due.is("function(" + f + ", 0)", x.function(f, 0), due.functions.get(f)[0]);
            Due.is("function(" + f + ", 1)", x.function(f, 1), due.functions.get(f)[1]);
            int first = 0;
            while (due.blocks.get(first).function() != f) {
                first++;
            }
            Due.is("function(" + f + ", 2)", x.function(f, 2), first);
        }
        for (int b = 0; b < due.blocks.size(); b++) {
            NaiveRules.Block block = due.blocks.get(b);
            long[] all = {block.address(), block.words(), block.function(), block.end(), block.next(), block.taken(),
                block.named() ? 1 : 0};
            for (int what = 0; what < 7; what++) {
                Due.is("block(" + b + ", " + what + ")", x.block(b, what), all[what]);
            }
        }
    }
}
