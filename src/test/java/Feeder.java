/** Feeds files to objects, and takes new files out of them. */
final class Feeder {
    private Feeder() {
    }

    static void feed(CodeLayout x, byte[] file) {
        for (int i = 0; i < file.length; i += 20) {
            x.feed(word(file, i), word(file, i + 4), word(file, i + 8), word(file, i + 12), word(file, i + 16));
        }
        x.end(file.length);
    }

    private static int word(byte[] file, int at) {
        int w = 0;
        for (int i = 0; i < 4; i++) {
            w = w << 8 | (at + i < file.length ? file[at + i] & 255 : 0);
        }
        return w;
    }

    static CodeLayout read(byte[] file, int due) {
        CodeLayout x = new CodeLayout();
        feed(x, file);
        Due.is("read()", x.read(), due);
        return x;
    }

    /** Reads a file that breaks a rule at a place. */
    static void refused(String what, byte[] file, int rule, int at) {
        CodeLayout x = new CodeLayout();
        feed(x, file);
        Due.is(what + ": read()", x.read(), -rule);
        Due.is(what + ": place()", x.place(), at);
        Due.is(what + ": no file", x.count(3), 0);
    }

    /** Reads a file that keeps all rules. */
    static CodeLayout taken(String what, byte[] file, int functions) {
        CodeLayout x = new CodeLayout();
        feed(x, file);
        Due.is(what + ": read()", x.read(), functions);
        Due.is(what + ": place()", x.place(), -1);
        Due.is(what + ": bytes", x.count(3), file.length);
        return x;
    }

    /** The new file; far more calls than an object is promised to be good for, which this class bears. */
    static byte[] written(CodeLayout x) {
        byte[] file = new byte[x.size()];
        for (int i = 0; i < file.length; i++) {
            file[i] = (byte) x.out(i);
        }
        return file;
    }
}
