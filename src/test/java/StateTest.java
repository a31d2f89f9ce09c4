/** Terms 10: what each call changes and what it leaves as it was; what is refused changes nothing but place(). */
public final class StateTest {
    private static final long STACK = 2147483648L;
    private static final int[] ODD = {Integer.MIN_VALUE, -15, -14, -2, -1, 5, 6, 7, 8, 32, 4097, Integer.MAX_VALUE};

    public static void main(String[] args) {
        askingChangesNothing();
        refusedCallsChangeNothing();
        refusedReadsChangeNothing();
        refusedReadUsesTheTrayUp();
        refusedEndKeepsTheTray();
        placeOfTheLatestRead();
        edgeChangesCountsAlone();
        layForgetsRunsAlone();
        runChangesItsKindAlone();
        readForgetsAll();
        fileTakenAgain();
        straysStay();
        Due.end("StateTest");
    }

    private static Prog sample() {
        Prog p = new Prog();
        p.data(6, 64);
        p.data(4, 16);
        p.function("f").dataAddress(1, 0, 8).put(Word.movz(2, 5, 0), Word.movz(8, 64, 0), Word.CALL);
        p.label("loop").bl("g").label("back").put(Word.subNumber(2, 2, 1)).cbnz(2, "loop");
        p.codeAddress(3, "out").put(Word.storePair(3, 3, 30, 31, -16), Word.br(3)).label("out").exit().b("out");
        p.function("g").put(Word.NOP, Word.ret(30));
        p.pointer(0, 16, "out");
        return p;
    }

    /** With counts, something laid and three runs. */
    private static CodeLayout full(Prog p) {
        CodeLayout x = Feeder.read(p.file(), 2);
        edge(x, p, "loop", 0, "g", 5);
        edge(x, p, "loop", 0, "back", 5);
        edge(x, p, "back", 4, "loop", 4);
        Due.holds("lay()", x.lay(64, 256) > 0);
        Due.is("run(0)", x.run(0, 100), 1);
        Due.is("run(1)", x.run(1, 100), 1);
        Due.is("run(2)", x.run(2, 100), 1);
        return x;
    }

    private static void edge(CodeLayout x, Prog p, String from, int more, String to, int count) {
        Due.is("edge()", x.edge(p.address(from) + more, p.address(to), count), 0);
    }

    private static void add(StringBuilder out, long... more) {
        for (long value : more) {
            out.append(value).append(' ');
        }
    }

    /** All that is told of the file. */
    private static String ofFile(CodeLayout x) {
        StringBuilder out = new StringBuilder();
        for (int what = -1; what < 6; what++) {
            add(out, x.count(what));
        }
        for (int f = -1; f <= x.count(0); f++) {
            add(out, x.function(f, 0), x.function(f, 1), x.function(f, 2));
        }
        for (int b = -1; b <= x.count(1); b++) {
            for (int what = 0; what < 7; what++) {
                add(out, x.block(b, what));
            }
        }
        add(out, x.same() ? 1 : 0);
        return out.toString();
    }

    private static String ofCounts(CodeLayout x) {
        StringBuilder out = new StringBuilder();
        for (int f = -1; f <= x.count(0); f++) {
            add(out, x.function(f, 3));
            for (int g = -1; g <= x.count(0); g++) {
                add(out, x.calls(f, g));
            }
        }
        for (int u = -1; u <= x.count(1); u++) {
            add(out, x.block(u, 7));
            for (int v = -1; v <= x.count(1); v++) {
                add(out, x.way(u, v));
            }
        }
        return out.toString();
    }

    private static String ofLaid(CodeLayout x) {
        StringBuilder out = new StringBuilder();
        for (int what = -1; what < 6; what++) {
            add(out, x.laid(what));
        }
        for (int k = -1; k <= x.count(1); k++) {
            add(out, x.order(k));
        }
        for (int f = -1; f <= x.count(0); f++) {
            add(out, x.weight(f, 0), x.weight(f, 1));
        }
        for (int i = -1; i <= x.count(2); i++) {
            add(out, x.moved(x.function(0, 0) + i));
        }
        add(out, x.size(), x.check(), x.strays());
        for (int i = -1; i <= x.size(); i++) {
            add(out, x.out(i));
        }
        return out.toString();
    }

    private static String ofRun(CodeLayout x, Prog p, int which) {
        StringBuilder out = new StringBuilder();
        for (int what = -1; what < 7; what++) {
            add(out, x.told(which, what));
        }
        for (int k = -1; k < 33; k++) {
            add(out, x.register(which, k), x.visit(which, k), x.text(which, k), x.trace(which, k, 0));
            add(out, x.trace(which, k, 1), x.trace(which, k, 2), x.trace(which, k, 3));
            if (which == 1) {
                add(out, x.kind(k), x.newer(k));
            }
        }
        for (int i = -8; i < 72; i++) {
            long[] places = {p.dataAddress(0) + i, p.dataAddress(1) + i, STACK - 64 + i, STACK - 65536 + i};
            for (long at : places) {
                add(out, x.memory(which, at));
                if (which == 1) {
                    add(out, x.keeps(at), x.newest(at));
                }
            }
        }
        return out.toString();
    }

    private static String ofRuns(CodeLayout x, Prog p) {
        return ofRun(x, p, 0) + "/" + ofRun(x, p, 1) + "/" + ofRun(x, p, 2);
    }

    private static String all(CodeLayout x, Prog p) {
        return ofFile(x) + ofCounts(x) + ofLaid(x) + ofRuns(x, p);
    }

    private static void alike(String what, String now, String before) {
        Due.holds(what, now.equals(before));
    }

    private static void askingChangesNothing() {
        Prog p = sample();
        CodeLayout x = full(p);
        String before = all(x, p);
        alike("asked again", all(x, p), before);
        for (int k : ODD) {
            x.count(k);
            x.function(k, k);
            x.block(k, k);
            x.way(k, k);
            x.calls(k, k);
            x.order(k);
            x.laid(k);
            x.weight(k, k);
            x.moved(k);
            x.out(k);
            x.told(k, k);
            x.register(k, k);
            x.kind(k);
            x.newer(k);
            x.visit(k, k);
            x.memory(k, k);
            x.keeps(k);
            x.newest(k);
            x.trace(k, k, k);
            x.text(k, k);
        }
        alike("asked for what there is not", all(x, p), before);
        Due.is("place()", x.place(), -1);
    }

    private static void refusedCallsChangeNothing() {
        Prog p = sample();
        CodeLayout x = full(p);
        String before = all(x, p);
        long from = p.address("loop");
        long to = p.address("g");
        Due.is("edge() of count 0", x.edge(from, to, 0), -1);
        Due.is("edge() of a count too great", x.edge(from, to, 1000000001), -1);
        Due.is("edge() from no last word", x.edge(from + 4, to, 1), -2);
        Due.is("edge() to no first word", x.edge(from, to + 4, 1), -3);
        Due.is("edge() that is neither way nor call", x.edge(from, from, 1), -4);
        alike("edge() refused", all(x, p), before);
        Due.is("lay() of a page too small", x.lay(3, 4), -1);
        Due.is("lay() of a page too large", x.lay(65537, 4), -1);
        Due.is("lay() apart by too little", x.lay(4, 2), -1);
        Due.is("lay() apart by too much", x.lay(4, 4194304), -1);
        Due.is("lay() apart by no power of 2", x.lay(4, 24), -1);
        alike("lay() refused", all(x, p), before);
        Due.is("run(-1)", x.run(-1, 1), -1);
        Due.is("run(3)", x.run(3, 1), -1);
        for (int which = 0; which < 3; which++) {
            Due.is("visits below 0", x.run(which, -1), -1);
            Due.is("visits too many", x.run(which, 4097), -1);
        }
        alike("run() refused", all(x, p), before);
        Due.holds("end(-1)", !x.end(-1));
        Due.holds("end(1) of an empty tray", !x.end(1));
        alike("end() refused", all(x, p), before);
        Due.is("place()", x.place(), -1);
    }

    /** One broken file for each of the rules 1 to 12. */
    private static byte[][] broken(Prog p) {
        byte[] good = p.file();
        int text = p.textOffset();
        int last = text + 4 * p.words.size() - 4;
        Bytes[] files = {new Bytes(good).put(0, 1, 0), new Bytes(good).put(64, 4, 0),
            new Bytes(good).put(p.sectionHead(0), 1, 1), new Bytes(good).put(p.symbolAt(0), 1, 1),
            new Bytes(good).put(p.fixOffset() + 8, 4, 1), new Bytes(good).put(24, 8, 0),
            new Bytes(good).put(p.symbolAt(p.functionSymbol(0)) + 16, 8, 4), new Bytes(good).put(text + 8, 4, 0),
            new Bytes(good).put(p.dataOffset(0) + 16, 8, 0), new Bytes(good).put(last - 4, 4, 0x90000001),
            new Bytes(good).put(last - 4, 4, Prog.BL | 1), new Bytes(good).put(last, 4, Word.NOP)};
        byte[][] out = new byte[files.length][];
        for (int k = 0; k < files.length; k++) {
            out[k] = files[k].bytes;
        }
        return out;
    }

    private static int[] places(Prog p) {
        int text = p.textOffset();
        int last = text + 4 * p.words.size() - 4;
        return new int[] {0, 64, p.sectionHead(0), p.symbolAt(0), p.fixOffset() + 8, 24, text, text + 8,
            p.dataFixOffset(0), last - 4, last - 4, last};
    }

    private static void refusedReadsChangeNothing() {
        Prog p = sample();
        CodeLayout x = full(p);
        String before = all(x, p);
        byte[][] files = broken(p);
        int[] due = places(p);
        for (int k = 0; k < files.length; k++) {
            Feeder.feed(x, files[k]);
            Due.is("read() breaks rule " + (k + 1), x.read(), -k - 1);
            Due.is("its place", x.place(), due[k]);
            alike("rule " + (k + 1) + " changes nothing", all(x, p), before);
        }
        Due.is("an empty file", x.read(), -1);
        Due.is("its place", x.place(), 0);
        alike("an empty file changes nothing", all(x, p), before);
        edge(x, p, "loop", 0, "g", 1);
        Due.is("counts go on", x.calls(0, 1), 6);
        Due.is("so do runs", x.run(2, 3), 0);
    }

    private static void refusedReadUsesTheTrayUp() {
        Prog p = sample();
        byte[][] files = broken(p);
        for (int k = 0; k < files.length; k++) {
            CodeLayout x = new CodeLayout();
            Feeder.feed(x, files[k]);
            Due.is("read()", x.read(), -k - 1);
            Due.holds("nothing is left", !x.end(1));
            Due.is("feed() begins anew", x.feed(0, 0, 0, 0, 0), 20);
            Due.holds("end(0)", x.end(0));
            Feeder.feed(x, p.file());
            Due.is("a right file behind it", x.read(), 2);
            Due.is("place()", x.place(), -1);
            Due.holds("nothing is left", !x.end(1));
            Due.is("read() of nothing", x.read(), -1);
            Due.is("its place", x.place(), 0);
            Due.is("the file is still there", x.count(0), 2);
        }
    }

    private static void refusedEndKeepsTheTray() {
        Prog p = sample();
        byte[] file = p.file();
        CodeLayout x = new CodeLayout();
        Feeder.feed(x, file);
        Due.holds("one more than there are", !x.end(file.length + 1));
        Due.holds("below 0", !x.end(-1));
        Due.holds("the least number", !x.end(Integer.MIN_VALUE));
        Due.holds("the greatest number", !x.end(Integer.MAX_VALUE));
        Due.is("all bytes are there", x.read(), 2);
        Due.is("bytes of the file", x.count(3), file.length);
    }

    private static void placeOfTheLatestRead() {
        Prog p = sample();
        CodeLayout x = new CodeLayout();
        Due.is("no read() yet", x.place(), -1);
        byte[][] files = broken(p);
        int[] due = places(p);
        for (int k = 0; k < files.length; k++) {
            Feeder.feed(x, files[k]);
            x.read();
            Due.is("refused", x.place(), due[k]);
            Due.is("asked again", x.place(), due[k]);
            x.feed(1, 2, 3, 4, 5);
            x.end(0);
            Due.is("feeding changes it not", x.place(), due[k]);
            Feeder.feed(x, p.file());
            Due.is("nor does feeding a right file", x.place(), due[k]);
            x.read();
            Due.is("taken", x.place(), -1);
        }
    }

    private static void edgeChangesCountsAlone() {
        Prog p = sample();
        CodeLayout x = full(p);
        String file = ofFile(x);
        String counts = ofCounts(x);
        String laid = ofLaid(x);
        String runs = ofRuns(x, p);
        edge(x, p, "out", 8, "out", 7);
        Due.holds("counts have changed", !ofCounts(x).equals(counts));
        alike("the file has not", ofFile(x), file);
        alike("what is laid has not", ofLaid(x), laid);
        alike("runs have not", ofRuns(x, p), runs);
    }

    private static void layForgetsRunsAlone() {
        Prog p = sample();
        CodeLayout x = full(p);
        String file = ofFile(x);
        String counts = ofCounts(x);
        String laid = ofLaid(x);
        Prog bare = sample();
        CodeLayout never = Feeder.read(bare.file(), 2);
        String none = ofRuns(never, bare);
        Due.holds("there are runs", !ofRuns(x, p).equals(none));
        x.lay(64, 256);
        alike("the same is laid again", ofLaid(x), laid);
        alike("all runs are forgotten", ofRuns(x, p), none);
        alike("counts are not", ofCounts(x), counts);
        alike("the file is as it was", ofFile(x), file);
        x.lay(4, 2097152);
        Due.holds("something else is laid", x.size() > 1000000);
        alike("counts are as they were", ofCounts(x), counts);
    }

    private static void runChangesItsKindAlone() {
        Prog p = sample();
        for (int which = 0; which < 3; which++) {
            CodeLayout x = full(p);
            String file = ofFile(x) + ofCounts(x) + ofLaid(x);
            String[] runs = {ofRun(x, p, 0), ofRun(x, p, 1), ofRun(x, p, 2)};
            Due.is("a shorter run", x.run(which, 2), 0);
            for (int other = 0; other < 3; other++) {
                Due.is("run " + other, ofRun(x, p, other).equals(runs[other]) ? 1 : 0, other == which ? 0 : 1);
            }
            alike("nothing else changes", ofFile(x) + ofCounts(x) + ofLaid(x), file);
            Due.is("the same run again", x.run(which, 100), 1);
            alike("leaves the same", ofRun(x, p, which), runs[which]);
        }
    }

    /** What is taken leaves no more than a new object with that file has. */
    private static void readForgetsAll() {
        Prog p = sample();
        CodeLayout fresh = Feeder.read(p.file(), 2);
        String due = all(fresh, p);
        CodeLayout x = full(p);
        Feeder.feed(x, p.file());
        Due.is("read()", x.read(), 2);
        alike("the same file", all(x, p), due);
        Due.is("run(2) is not to be had", x.run(2, 1), -14);
        Prog other = new Prog();
        other.function("a").put(Word.ret(30));
        CodeLayout small = Feeder.read(other.file(), 1);
        CodeLayout y = full(p);
        Feeder.feed(y, other.file());
        Due.is("read()", y.read(), 1);
        alike("a smaller file", all(y, p), all(small, p));
        Feeder.feed(y, p.file());
        Due.is("read()", y.read(), 2);
        alike("the greater one again", all(y, p), due);
    }

    /** All that can be done with a file can be done with it when it is read again. */
    private static void fileTakenAgain() {
        Prog p = sample();
        String due = all(full(p), p);
        CodeLayout x = full(p);
        Feeder.feed(x, p.file());
        x.read();
        edge(x, p, "loop", 0, "g", 5);
        edge(x, p, "loop", 0, "back", 5);
        edge(x, p, "back", 4, "loop", 4);
        x.lay(64, 256);
        for (int which = 2; which >= 0; which--) {
            x.run(which, 100);
        }
        alike("as in a new object", all(x, p), due);
    }

    private static void straysStay() {
        Prog p = sample();
        CodeLayout x = new CodeLayout();
        Due.is("of a new object", x.strays(), 0);
        for (int apart = 4; apart <= 2097152; apart *= 2) {
            Feeder.feed(x, p.file());
            x.read();
            x.edge(p.address("loop"), p.address("g"), 1);
            x.lay(4, apart);
            Due.is("strays()", x.strays(), 0);
            Due.is("check()", x.check(), 0);
        }
    }
}
