import java.util.Random;

/** Broken files and wild calls: no call throws, and the same calls give the same answers. */
public final class FuzzTest {
    private static final long[] ODD = {0, 1, 2, 3, 4, 5, 6, 7, 8, 15, 16, 24, 56, 63, 64, 93, 255, 256, 257, 275, 277,
        282, 4096, 65520, 65521, 65535, 65536, 131072, 4194304, 134217728, 2147483647L, 2147483648L, 4294967295L,
        -1, -2, -4, -8, -16, Long.MIN_VALUE, Long.MAX_VALUE, Integer.MIN_VALUE};

    public static void main(String[] args) {
        int many = args.length > 0 ? Integer.parseInt(args[0]) : 1500;
        int from = args.length > 1 ? Integer.parseInt(args[1]) : 0;
        int[] taken = new int[14];
        for (int seed = from; seed < from + many; seed++) {
            long first = 0;
            try {
                first = play(seed, taken);
                Due.is("seed " + seed + " again", play(seed, taken), first);
            } catch (RuntimeException | StackOverflowError e) {
                e.printStackTrace(System.out);
                Due.is("seed " + seed + " throws", 1, 0);
            }
        }
        for (int rule = 1; rule <= 11; rule++) {
            Due.holds("rule " + rule + " is broken by some", taken[rule] > 0 || many < 1000);
        }
        Due.holds("some files are taken", taken[0] > 0);
        Due.end("FuzzTest");
    }

    private static long play(int seed, int[] taken) {
        Random random = new Random(seed);
        CodeLayout x = new CodeLayout();
        long sum = wild(x, random, 5, new byte[0], 0);
        for (int round = 0; round < 3; round++) {
            byte[] file = mutated(new RandomProg(random.nextInt(50)).prog, random);
            Feeder.feed(x, file);
            if (random.nextInt(20) == 0) {
                x.end(random.nextInt(file.length));
            }
            int answer = x.read();
            taken[answer < 0 ? -answer : 0]++;
            sum = 31 * sum + answer;
            sum = 31 * sum + x.place();
            if (answer < 0) {
                Due.holds("a place in the file", x.place() >= 0 && x.place() <= file.length);
            } else {
                Due.is("no place", x.place(), -1);
                Due.holds("same()", x.same());
            }
            sum = wild(x, random, 60, file, sum);
        }
        return sum;
    }

    private static byte[] mutated(Prog prog, Random random) {
        Bytes file = new Bytes(prog.file());
        int times = random.nextInt(4);
        for (int i = 0; i < times; i++) {
            int n = 1 << random.nextInt(4);
            int at = place(prog, random, file.bytes.length) & -n;
            long value = random.nextInt(3) > 0 ? ODD[random.nextInt(ODD.length)]
                : file.get(at, Math.min(n, file.bytes.length - at)) + random.nextInt(33) - 16;
            if (random.nextInt(4) == 0) {
                value = file.get(at, Math.min(n, file.bytes.length - at)) ^ 1L << random.nextInt(8 * n);
            }
            file.put(at, Math.min(n, file.bytes.length - at), value);
        }
        return file.bytes;
    }

    private static int place(Prog prog, Random random, int length) {
        switch (random.nextInt(6)) {
            case 0:
                return random.nextInt(64 + 56 * 3);
            case 1:
                return prog.headsOffset() + random.nextInt(length - prog.headsOffset());
            case 2:
                return prog.symbolOffset() + random.nextInt(prog.nameOffset() - prog.symbolOffset());
            case 3:
                return prog.fixOffset() + random.nextInt(prog.symbolOffset() - prog.fixOffset());
            case 4:
                return prog.textOffset() + random.nextInt(prog.textEnd() - prog.textOffset());
            default:
                return random.nextInt(length);
        }
    }

    private static long number(CodeLayout x, Random random) {
        int blocks = x.count(1);
        switch (random.nextInt(6)) {
            case 0:
                return ODD[random.nextInt(ODD.length)];
            case 1:
                return random.nextInt(40) - 3;
            case 2:
                return blocks > 0 ? x.block(random.nextInt(blocks), 0) : random.nextLong();
            case 3:
                int b = blocks > 0 ? random.nextInt(blocks) : 0;
                return x.block(b, 0) + 4 * x.block(b, 1) - 4;
            case 4:
                return 2147483648L - 8 * random.nextInt(20);
            default:
                return 65536 + 240 + random.nextInt(600);
        }
    }

    private static long wild(CodeLayout x, Random random, int calls, byte[] file, long from) {
        long sum = from;
        for (int i = 0; i < calls; i++) {
            sum = 31 * sum + call(x, random, random.nextInt(32));
        }
        return sum;
    }

    private static long call(CodeLayout x, Random random, int which) {
        long p = number(x, random);
        long q = number(x, random);
        int a = (int) p;
        int b = random.nextInt(3) > 0 ? random.nextInt(6) - 1 : (int) q;
        int run = random.nextInt(5) > 0 ? random.nextInt(3) : a;
        switch (which) {
            case 0:
                return x.end(0) ? 1 : 0;
            case 1:
                return x.count(b);
            case 2:
                return x.function(random.nextBoolean() ? b : a, b);
            case 3:
                return x.block(random.nextBoolean() ? b : a, b);
            case 4:
            case 5:
            case 6:
            case 7:
                return x.edge(p, q, random.nextInt(20));
            case 8:
                return x.way(a, b);
            case 9:
                return x.calls(a, b);
            case 10:
            case 11:
                return x.lay(random.nextInt(300), 4 << random.nextInt(21));
            case 12:
                return x.lay(a, (int) q);
            case 13:
                return x.order(a);
            case 14:
                return x.laid(b);
            case 15:
                return x.weight(a, b);
            case 16:
                return x.moved(p);
            case 17:
                return x.size();
            case 18:
                return x.out(a);
            case 19:
                return x.check();
            case 20:
                return x.same() ? 1 : 0;
            case 21:
            case 22:
                return x.run(run, random.nextInt(4097));
            case 23:
                return x.told(run, b);
            case 24:
                return x.register(run, a);
            case 25:
                return x.kind(a) + 7 * x.newer(a);
            case 26:
                return x.visit(run, a);
            case 27:
                return x.memory(run, p);
            case 28:
                return x.keeps(p & -8) + 7 * x.newest(p & -8);
            case 29:
                return x.trace(run, a, b);
            case 30:
                return x.text(run, a);
            default:
                return x.strays();
        }
    }
}
