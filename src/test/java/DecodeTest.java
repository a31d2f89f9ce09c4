import java.util.Random;

/** Rule 8 on random words: which are instructions, by the document's table row by row. */
public final class DecodeTest {
    private static final long[][] ROWS = {
        {0x1F800000L, 0x11000000L}, {0x1F200000L, 0x0B000000L}, {0x1F000000L, 0x0A000000L}, {0x1F800000L, 0x12800000L},
        {0x9F000000L, 0x90000000L}, {0x7FE00000L, 0x1B000000L}, {0x7FE00000L, 0x1AC00000L}, {0x7FE00800L, 0x1A800000L},
        {0x3F000000L, 0x39000000L}, {0x3F20EC00L, 0x38206800L}, {0xFE000000L, 0xA8000000L}, {0xFC000000L, 0x14000000L},
        {0xFC000000L, 0x94000000L}, {0xFF000010L, 0x54000000L}, {0x7E000000L, 0x34000000L}, {0x7E000000L, 0x36000000L},
        {0xFFFFFC1FL, 0xD61F0000L}, {0xFFFFFC1FL, 0xD63F0000L}, {0xFFFFFC1FL, 0xD65F0000L}, {0xFFE0001FL, 0xD4000001L},
        {0xFFFFFFFFL, 0xD503201FL}};

    public static void main(String[] args) {
        Random random = new Random(5);
        Prog p = new Prog();
        p.function("f").put(Word.NOP, Word.NOP).label("end").b("end");
        byte[] file = p.file();
        int yes = 0;
        for (int i = 0; i < 40000; i++) {
            int w = word(random);
            Bytes changed = new Bytes(file).put(p.textOffset() + 4, 4, w);
            CodeLayout x = new CodeLayout();
            Feeder.feed(x, changed.bytes);
            boolean broken = x.read() == -8;
            Due.is(Integer.toHexString(w), broken ? 0 : 1, isInstruction(w) ? 1 : 0);
            yes += broken ? 0 : 1;
        }
        Due.holds("some are, some are not", yes > 5000 && yes < 35000);
        Due.end("DecodeTest");
    }

    private static int word(Random random) {
        long[] row = ROWS[random.nextInt(ROWS.length)];
        int w = random.nextInt() & ~(int) row[0] | (int) row[1];
        if (random.nextInt(4) == 0) {
            w ^= 1 << random.nextInt(32);
        }
        if (random.nextInt(4) == 0) {
            // Registers that are the same are a matter of pairs.
            w = w & ~31 | w >>> 5 & 31;
        }
        if (random.nextInt(4) == 0) {
            w |= 31 << 5;
        }
        return w;
    }

    private static int bits(int w, int from, int to) {
        return w >>> from & (1 << to - from + 1) - 1;
    }

    static boolean isInstruction(int w) {
        for (int k = 0; k < ROWS.length; k++) {
            if ((w & 0xFFFFFFFFL & ROWS[k][0]) == ROWS[k][1]) {
                return isRight(k, w);
            }
        }
        return false;
    }

    private static boolean isRight(int row, int w) {
        boolean isLong = bits(w, 31, 31) == 1;
        int width = bits(w, 30, 31);
        switch (row) {
            case 1:
                return bits(w, 22, 23) != 3 && (isLong || bits(w, 10, 15) < 32);
            case 2:
                return isLong || bits(w, 10, 15) < 32;
            case 3:
                return bits(w, 29, 30) != 1 && (isLong || bits(w, 21, 22) < 2);
            case 6:
                int what = bits(w, 10, 15);
                return what == 2 || what == 3 || what >= 8 && what <= 10;
            case 7:
                return bits(w, 12, 15) < 14;
            case 8:
            case 9:
                int how = bits(w, 22, 23);
                return width != 1 && (how == 0 || how == 1 || how == 2 && width == 2);
            case 10:
                return isRightPair(w);
            case 13:
                return bits(w, 0, 3) < 14;
            default:
                return true;
        }
    }

    private static boolean isRightPair(int w) {
        int how = bits(w, 23, 24);
        int d = bits(w, 0, 4);
        int n = bits(w, 5, 9);
        int a = bits(w, 10, 14);
        if (how == 0 || bits(w, 22, 22) == 1 && d == a) {
            return false;
        }
        return how == 2 || n == 31 || n != d && n != a;
    }
}
