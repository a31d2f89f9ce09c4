import java.util.Random;

/** Random programs: the three runs agree, and what is laid keeps every rule that can be looked at from outside. */
public final class RandomTest {
    private static final int[] APARTS = {4, 8, 64, 4096, 65536, 2097152};

    public static void main(String[] args) {
        for (int seed = 0; seed < 600; seed++) {
            int before = Due.wrongs();
            tryOne(seed);
            if (Due.wrongs() != before) {
                System.out.println("seed " + seed);
            }
        }
        Due.end("RandomTest");
    }

    private static void tryOne(int seed) {
        Prog prog = new RandomProg(seed).prog;
        Random random = new Random(seed);
        CodeLayout x = Feeder.read(prog.file(), prog.functionNames.size());
        Due.holds("same()", x.same());
        Due.is("run(0, 4096)", x.run(0, 4096), 1);
        tellWays(x, random);
        long bytes = x.lay(4 << random.nextInt(12), APARTS[random.nextInt(APARTS.length)]);
        Due.is("check()", x.check(), 0);
        Due.is("strays()", x.strays(), 0);
        Due.holds("same()", x.same());
        Due.is("told(0, 5) behind lay()", x.told(0, 5), -14);
        rowsHold(x);
        runsAgree(x);
        fileHolds(x, prog, bytes);
        inAnotherOrder(x, prog, random);
        int short1 = 1 + random.nextInt(40);
        Due.is("run(0, few)", x.run(0, short1), x.run(2, short1));
        Due.is("visits of few", x.told(0, 0), x.told(2, 0));
    }

    /** The order of sections says nothing. */
    private static void inAnotherOrder(CodeLayout x, Prog prog, Random random) {
        int[] to = new int[prog.sections()];
        for (int s = 1; s < to.length; s++) {
            int k = 1 + random.nextInt(s);
            to[s] = to[k];
            to[k] = s;
        }
        CodeLayout y = Feeder.read(prog.reordered(to), x.count(0));
        for (int b = 0; b < x.count(1); b++) {
            Due.is("address of a block", y.block(b, 0), x.block(b, 0));
            Due.is("whether it is named", y.block(b, 6), x.block(b, 6));
        }
        Due.is("fixes", y.count(4), x.count(4));
        Due.is("run(1)", y.run(1, 4096), 1);
        Due.is("instructions", y.told(1, 1), x.told(1, 1));
        y.edge(y.block(0, 0) + 4 * y.block(0, 1) - 4, y.block(0, 0) + 4 * y.block(0, 1), 3);
        y.lay(64, 64);
        Due.is("check()", y.check(), 0);
        Due.holds("same()", y.same());
        Due.is("run(2)", y.run(2, 4096), 1);
        Due.is("visits", y.told(2, 0), x.told(2, 0));
    }

    private static void tellWays(CodeLayout x, Random random) {
        int percent = random.nextInt(5) == 0 ? 0 : random.nextInt(4) == 0 ? 3 : 100;
        int visits = x.told(0, 0);
        for (int k = 0; k + 1 < visits; k++) {
            int u = x.visit(0, k);
            int v = x.visit(0, k + 1);
            if (random.nextInt(100) < percent) {
                int end = (int) x.block(u, 3);
                int answer = x.edge(x.block(u, 0) + 4 * x.block(u, 1) - 4, x.block(v, 0), 1 + random.nextInt(3));
                Due.is("edge() of what was gone", answer, end == 7 ? -4 : 0);
            }
        }
    }

    private static void rowsHold(CodeLayout x) {
        int blocks = x.count(1);
        boolean[] seen = new boolean[blocks];
        int hot = x.laid(0);
        for (int k = 0; k < blocks; k++) {
            int b = x.order(k);
            Due.holds("order() tells each block once", b >= 0 && b < blocks && !seen[b]);
            seen[b] = true;
            Due.is("hot blocks come first", x.block(b, 7) > 0 ? 1 : 0, k < hot ? 1 : 0);
            Due.holds("cold ones by number", k <= hot || x.order(k - 1) < b);
        }
        Due.is("order() beyond", x.order(blocks), -1);
        for (int f = 0; f < x.count(0); f++) {
            Due.is("weight as laid", x.weight(f, 1), weighRow(x, f));
        }
    }

    private static long weighRow(CodeLayout x, int f) {
        long sum = 0;
        for (int k = 0; k + 1 < x.laid(0); k++) {
            int u = x.order(k);
            int v = x.order(k + 1);
            if (x.block(u, 2) == f && x.block(v, 2) == f && falls(x, u, v)) {
                sum += x.way(u, v);
            }
        }
        return sum;
    }

    private static boolean falls(CodeLayout x, int u, int v) {
        long end = x.block(u, 3);
        if (end == 1) {
            return x.block(u, 5) == v && x.block(u, 1) > 1 && v != u + 1;
        }
        return end == 0 || end == 3 || end == 4 || end == 5;
    }

    private static void runsAgree(CodeLayout x) {
        for (int which = 0; which < 3; which++) {
            Due.is("outcome", x.run(which, 4096), 1);
        }
        for (int which = 1; which < 3; which++) {
            Due.is("visits", x.told(which, 0), x.told(0, 0));
            Due.is("flags", x.told(which, 2), x.told(0, 2));
            Due.is("calls", x.told(which, 3), x.told(0, 3));
            Due.is("bytes told", x.told(which, 4), x.told(0, 4));
            for (int k = 0; k < x.told(0, 0); k++) {
                Due.is("visit", x.visit(which, k), x.visit(0, k));
            }
            for (int k = 0; k < x.told(0, 4); k++) {
                Due.is("text", x.text(which, k), x.text(0, k));
            }
            for (int k = 0; k < 4 * x.told(0, 3); k++) {
                Due.is("trace", x.trace(which, k / 4, k % 4), x.trace(0, k / 4, k % 4));
            }
        }
        Due.is("instructions of blocks", x.told(1, 1), x.told(0, 1));
        for (int k = 0; k < 32; k++) {
            Due.is("register in run 1", x.register(1, k), x.kind(k) == 3 ? 0 : x.register(0, k));
            Due.is("register in run 2", x.kind(k) == 3 ? 0 : x.register(2, k), x.newer(k));
        }
        memoriesAgree(x, 65536 + 240, 512);
        memoriesAgree(x, 2147483648L - 2048, 2048);
    }

    private static void memoriesAgree(CodeLayout x, long from, int n) {
        for (long a = from & ~7; a < from + n; a += 8) {
            long old = longAt(x, 0, a);
            long blocks = longAt(x, 1, a);
            long laid = longAt(x, 2, a);
            int kept = x.keeps(a);
            Due.is("memory of run 1", blocks, old);
            Due.is("memory of run 2", laid, kept > 0 ? x.newest(a) : old);
        }
    }

    private static long longAt(CodeLayout x, int which, long a) {
        long value = 0;
        for (int i = 0; i < 8; i++) {
            value |= (long) x.memory(which, a + i) << 8 * i;
        }
        return value;
    }

    /** The new file, read again; where functions have lost their cold blocks they are made one, to get beyond rule 7. */
    private static void fileHolds(CodeLayout x, Prog prog, long bytes) {
        if (x.size() > 60000 || bytes > 40000) {
            return;
        }
        byte[] file = Feeder.written(x);
        CodeLayout y = new CodeLayout();
        Feeder.feed(y, file);
        int answer = y.read();
        if (answer >= 0) {
            Due.is("the new file's functions", answer, x.count(0));
            Due.is("the new file's run", y.run(0, 4096), 1);
            Due.is("the new file's instructions", y.told(0, 1), x.told(2, 1));
            Due.is("the new file's fixes", y.count(4), x.count(4) - leftOut(x, file, prog));
            return;
        }
        Due.is("the new file's rule", answer, -7);
        if (x.laid(0) != 0 && (int) bytes == 4 * wordsWritten(x)) {
            Bytes patched = new Bytes(file);
            int shift = file.length - prog.file().length;
            for (int f = 0; f < prog.functionNames.size(); f++) {
                int at = prog.symbolAt(prog.functionSymbol(f)) + shift;
                patched.put(at + 4, 1, 0);
                if (f == 0) {
                    patched.put(at + 4, 1, 2).put(at + 8, 8, prog.textAddress()).put(at + 16, 8, bytes);
                }
            }
            CodeLayout z = new CodeLayout();
            Feeder.feed(z, patched.bytes);
            int again = z.read();
            Due.holds("the new file keeps rules 7 to 10", again > 0 || again <= -11);
        }
    }

    private static int wordsWritten(CodeLayout x) {
        int words = x.laid(1) - x.laid(2) + x.laid(4);
        for (int b = 0; b < x.count(1); b++) {
            words += (int) x.block(b, 1);
        }
        return words;
    }

    /** How many fixes of the TEXT became TYPE 0. */
    private static int leftOut(CodeLayout x, byte[] file, Prog prog) {
        Bytes before = new Bytes(prog.file());
        Bytes after = new Bytes(file);
        int shift = file.length - before.bytes.length;
        int many = 0;
        for (int at = prog.fixOffset(); at < prog.dataFixOffset(0); at += 24) {
            many += before.get(at + 8, 4) != 0 && after.get(at + shift + 8, 4) == 0 ? 1 : 0;
        }
        Due.holds("no more fixes went than ENDs", many <= x.laid(2));
        return many;
    }
}
