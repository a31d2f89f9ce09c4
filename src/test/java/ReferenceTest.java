import java.util.Random;

/** Promises 9 to 18: random counts, and everything that is laid set against a slow reading of the document's words. */
public final class ReferenceTest {
    private static byte[] current;
    private static int textOffset;
    private static final int[] seen = new int[5];

    public static void main(String[] args) {
        for (int seed = 0; seed < 1500; seed++) {
            int before = Due.wrongs();
            tryOne(seed);
            if (Due.wrongs() != before) {
                System.out.println("seed " + seed);
                break;
            }
        }
        for (int what = 0; what < 5; what++) {
            Due.holds("laid(" + what + ") is seen above 0", seen[what] > 100);
        }
        for (int seed = 0; seed < 600; seed++) {
            manyFunctions(new Random(seed));
        }
        Due.end("ReferenceTest");
    }

    private static void tryOne(int seed) {
        Prog prog = new RandomProg(seed).prog;
        byte[] file = prog.file();
        current = file;
        textOffset = prog.textOffset();
        Random random = new Random(seed + 77);
        CodeLayout x = Feeder.read(file, prog.functionNames.size());
        Naive naive = new Naive(x);
        tell(x, naive, random);
        for (int b = 0; b < x.count(1); b++) {
            Due.is("count of a block", x.block(b, 7), naive.count(b));
        }
        int page = 4 + random.nextInt(random.nextBoolean() ? 2000 : 200);
        int apart = 4 << random.nextInt(20);
        naive.order(page);
        long bytes = naive.write(apart, bits(x, file, prog));
        Due.is("lay()", x.lay(page, apart), bytes);
        rowsAgree(x, naive);
        placesAgree(x, naive);
        Due.is("size()", x.size(), file.length + (bytes - x.count(2) + 15 & ~15));
        Due.is("check()", x.check(), 0);
        sizesAgree(x, naive, prog, bytes);
        bytesAgree(x, new NaiveFile(x, naive, file, bytes).make());
    }

    private static void bytesAgree(CodeLayout x, byte[] due) {
        Due.is("bytes of the new file", x.size(), due.length);
        // Of a wide gap between the rows not each byte is looked at.
        for (int i = 0; i < due.length; i += i < 9000 || i > due.length - 9000 || due[i] != 0 ? 1 : 7) {
            Due.is("out(" + i + ")", x.out(i), due[i] & 255);
        }
        Due.is("out() beyond", x.out(due.length), -1);
    }

    /** Functions of some words that call one another by registers: the order of clusters. */
    private static void manyFunctions(Random random) {
        Prog p = new Prog();
        int functions = 2 + random.nextInt(14);
        for (int f = 0; f < functions; f++) {
            p.function("f" + f);
            int words = random.nextInt(6);
            for (int i = 0; i < words; i++) {
                p.put(Word.NOP);
            }
            p.put(Word.blr(1), Word.ret(30));
        }
        CodeLayout x = Feeder.read(p.file(), functions);
        Naive naive = new Naive(x);
        int most = random.nextBoolean() ? 3 : 100;
        int calls = 1 + random.nextInt(3 * functions);
        for (int i = 0; i < calls; i++) {
            int f = random.nextInt(functions);
            int g = random.nextInt(functions);
            int times = 1 + random.nextInt(most);
            Due.is("edge()", x.edge(last(x, 2 * f), x.block(2 * g, 0), times), 0);
            naive.calls.merge(new Naive.Way(2 * f, g), (long) times, Long::sum);
        }
        int page = 4 * (1 + random.nextInt(8 + random.nextInt(40)));
        naive.order(page);
        x.lay(page, 4);
        for (int k = 0; k < naive.hotRow.size(); k++) {
            Due.is("order(" + k + ") of clusters", x.order(k), naive.hotRow.get(k));
        }
        Due.is("laid(0)", x.laid(0), naive.hotRow.size());
    }

    private static long last(CodeLayout x, int b) {
        return x.block(b, 0) + 4 * x.block(b, 1) - 4;
    }

    private static void tell(CodeLayout x, Naive naive, Random random) {
        int tries = random.nextInt(60);
        int most = random.nextBoolean() ? 3 : 1000;
        for (int i = 0; i < tries; i++) {
            int u = random.nextInt(x.count(1));
            int v = pick(x, u, random);
            int times = 1 + random.nextInt(most);
            int answer = x.edge(last(x, u), x.block(v, 0), times);
            boolean way = isWay(x, u, v);
            boolean call = !way && isCall(x, u, v);
            Due.is("edge()", answer, way || call ? 0 : -4);
            if (way) {
                naive.ways.merge(new Naive.Way(u, v), (long) times, Long::sum);
            } else if (call) {
                naive.calls.merge(new Naive.Way(u, (int) x.block(v, 2)), (long) times, Long::sum);
            }
        }
    }

    private static int pick(CodeLayout x, int u, Random random) {
        long next = x.block(u, 4);
        long taken = x.block(u, 5);
        int any = random.nextInt(x.count(1));
        int first = (int) x.function(random.nextInt(x.count(0)), 2);
        switch (random.nextInt(5)) {
            case 0:
                return next < 0 ? any : (int) next;
            case 1:
                return taken < 0 ? first : (int) taken;
            case 2:
            case 3:
                return first;
            default:
                return any;
        }
    }

    private static boolean isWay(CodeLayout x, int u, int v) {
        if (x.block(u, 3) == 6) {
            return x.block(u, 2) == x.block(v, 2) && x.block(v, 6) == 1;
        }
        return x.block(u, 4) == v || x.block(u, 5) == v;
    }

    private static boolean isCall(CodeLayout x, int u, int v) {
        boolean first = x.function((int) x.block(v, 2), 2) == v;
        long end = x.block(u, 3);
        return end == 5 && first || (end == 4 || end == 2) && goal(x, u) == v;
    }

    /** Where a B or BL at the end of a block goes. */
    private static long goal(CodeLayout x, int u) {
        int at = textOffset + (int) (last(x, u) - x.function(0, 0));
        int w = (int) new Bytes(current).get(at, 4);
        long to = last(x, u) + 4L * (w << 6 >> 6);
        for (int b = 0; b < x.count(1); b++) {
            if (x.block(b, 0) == to) {
                return b;
            }
        }
        return -1;
    }

    private static int[] bits(CodeLayout x, byte[] file, Prog prog) {
        int[] bits = new int[x.count(1)];
        for (int b = 0; b < bits.length; b++) {
            int at = prog.textOffset() + (int) (last(x, b) - x.function(0, 0));
            int w = (int) new Bytes(file).get(at, 4);
            bits[b] = (w & 0x7E000000) == 0x36000000 ? 14 : 19;
        }
        return bits;
    }

    private static void rowsAgree(CodeLayout x, Naive naive) {
        int k = 0;
        Due.is("laid(0)", x.laid(0), naive.hotRow.size());
        for (int b : naive.hotRow) {
            Due.is("order(" + k + ")", x.order(k), b);
            k++;
        }
        for (int b : naive.coldRow) {
            Due.is("order(" + k + ")", x.order(k), b);
            k++;
        }
        for (int what = 0; what < 5; what++) {
            seen[what] += x.laid(what) > 0 ? 1 : 0;
        }
        Due.is("laid(1)", x.laid(1), naive.longs);
        Due.is("laid(2)", x.laid(2), naive.left);
        Due.is("laid(3)", x.laid(3), naive.turned);
        Due.is("laid(4)", x.laid(4), naive.put);
        for (int f = 0; f < x.count(0); f++) {
            Due.is("weight(f, 0)", x.weight(f, 0), naive.weigh(naive.blocksOf(f)));
            Due.is("weight(f, 1)", x.weight(f, 1), naive.weightLaid[f]);
        }
    }

    private static void placesAgree(CodeLayout x, Naive naive) {
        for (int b = 0; b < x.count(1); b++) {
            for (int i = 0; i < x.block(b, 1); i++) {
                Due.is("moved()", x.moved(x.block(b, 0) + 4 * i), naive.start[b] + 4 * i);
            }
        }
    }

    private static void sizesAgree(CodeLayout x, Naive naive, Prog prog, long bytes) {
        int shift = x.size() - x.count(3);
        for (int f = 0; f < x.count(0); f++) {
            int at = prog.symbolAt(prog.functionSymbol(f)) + shift;
            Due.is("a function's SIZE", longOut(x, at + 16), naive.newSize(f));
            Due.is("a function's VALUE", longOut(x, at + 8), naive.start[(int) x.function(f, 2)]);
        }
        Due.is("ENTRY", longOut(x, 24), x.moved(prog.address(prog.entry)));
        Due.is("SHOFF", longOut(x, 40), prog.headsOffset() + shift);
        Due.is("the segment's SIZE", longOut(x, Prog.segmentHead(2) + 32), bytes);
        Due.is("the same again", longOut(x, Prog.segmentHead(2) + 40), bytes);
        Due.is("the TEXT's SIZE", longOut(x, prog.sectionHead(prog.textSection()) + shift + 32), bytes);
    }

    private static long longOut(CodeLayout x, int at) {
        long value = 0;
        for (int i = 0; i < 8; i++) {
            value |= (long) x.out(at + i) << 8 * i;
        }
        return value;
    }
}
