/** Promises 1 to 3, and what every call answers while there is no file, nothing laid, no run. */
public final class FaceTest {
    public static void main(String[] args) {
        noFile();
        tray();
        bytesInTheirOrder();
        nothingLaid();
        wrongNumbers();
        trayLimits();
        Due.end("FaceTest");
    }

    private static void noFile() {
        CodeLayout x = new CodeLayout();
        Due.is("place()", x.place(), -1);
        for (int what = 0; what < 5; what++) {
            Due.is("count(" + what + ")", x.count(what), 0);
        }
        Due.is("count(-1)", x.count(-1), -14);
        Due.is("count(5)", x.count(5), -14);
        Due.is("function(0, 0)", x.function(0, 0), -14);
        Due.is("block(0, 0)", x.block(0, 0), -14);
        Due.is("edge(0, 0, 0)", x.edge(0, 0, 0), -14);
        Due.is("way(0, 0)", x.way(0, 0), 0);
        Due.is("calls(0, 0)", x.calls(0, 0), 0);
        Due.is("lay(0, 0)", x.lay(0, 0), -14);
        Due.is("lay(4, 4)", x.lay(4, 4), -14);
        Due.holds("same()", !x.same());
        Due.is("run(0, 0)", x.run(0, 0), -14);
        Due.is("run(7, -1)", x.run(7, -1), -14);
        nothing(x);
        noRuns(x);
    }

    private static void nothing(CodeLayout x) {
        Due.is("order(0)", x.order(0), -1);
        Due.is("laid(0)", x.laid(0), -14);
        Due.is("weight(0, 0)", x.weight(0, 0), -14);
        Due.is("moved(0)", x.moved(0), -14);
        Due.is("size()", x.size(), -14);
        Due.is("out(0)", x.out(0), -1);
        Due.is("check()", x.check(), -14);
        Due.is("strays()", x.strays(), 0);
        Due.is("run(2, 0)", x.run(2, 0), -14);
        Due.is("run(2, 5000)", x.run(2, 5000), -14);
    }

    private static void noRuns(CodeLayout x) {
        for (int which = -1; which < 4; which++) {
            for (int what = -1; what < 7; what++) {
                Due.is("told()", x.told(which, what), -14);
            }
            Due.is("register()", x.register(which, 31), 0);
            Due.is("visit()", x.visit(which, 0), -1);
            Due.is("memory()", x.memory(which, 2147483647L), -1);
            Due.is("trace()", x.trace(which, 0, 0), 0);
            Due.is("text()", x.text(which, 0), -1);
        }
        Due.is("kind(0)", x.kind(0), -1);
        Due.is("newer(31)", x.newer(31), 0);
        Due.is("keeps()", x.keeps(2147483640L), -1);
        Due.is("newest()", x.newest(2147483640L), 0);
    }

    private static void tray() {
        CodeLayout x = new CodeLayout();
        Due.holds("end(0)", x.end(0));
        Due.holds("end(1) of nothing", !x.end(1));
        Due.is("feed()", x.feed(1, 2, 3, 4, 5), 20);
        Due.is("feed()", x.feed(1, 2, 3, 4, 5), 40);
        Due.holds("end(-1)", !x.end(-1));
        Due.holds("end(41)", !x.end(41));
        Due.holds("end(40)", x.end(40));
        Due.holds("end(33)", x.end(33));
        Due.holds("end(34) behind end(33)", !x.end(34));
        Due.is("feed() goes on there", x.feed(1, 2, 3, 4, 5), 53);
        Due.is("read()", x.read(), -1);
        Due.is("place()", x.place(), 53);
        Due.is("the tray is used up", x.feed(1, 2, 3, 4, 5), 20);
        Due.holds("end(0)", x.end(0));
        Due.is("read()", x.read(), -1);
        Due.is("place()", x.place(), 0);
    }

    private static void bytesInTheirOrder() {
        CodeLayout x = new CodeLayout();
        x.feed(0x7F454C46, 0x02010100, 0, 0, 0x0200B700);
        x.feed(0x01000000, 0, 0, 0x40000000, 0);
        x.feed(0, 0, 0x00000000, 0x40003800, 0x01004000);
        x.feed(0x05000100, 0, 0, 0, 0);
        Due.holds("end(64)", x.end(64));
        Due.is("all of the file's head is right but SHOFF", x.read(), -1);
        Due.is("SHOFF", x.place(), 40);
    }

    private static Prog small() {
        Prog p = new Prog();
        p.data(6, 16);
        p.function("f").cbz(1, "end").put(Word.NOP).label("end").exit().b("end");
        return p;
    }

    private static void nothingLaid() {
        CodeLayout x = Feeder.read(small().file(), 1);
        nothing(x);
        noRuns(x);
        Due.is("moved() of a word", x.moved(small().textAddress()), -14);
        Due.is("weight(0, 1)", x.weight(0, 1), -14);
        Due.holds("same()", x.same());
    }

    private static void wrongNumbers() {
        Prog p = small();
        CodeLayout x = Feeder.read(p.file(), 1);
        int[][] wrong = {{3, 4}, {65537, 4}, {-4, 4}, {64, 0}, {64, 2}, {64, 3}, {64, 12}, {64, 4194304}, {64, -4},
            {64, Integer.MIN_VALUE}, {0, 4}};
        for (int[] w : wrong) {
            Due.is("lay(" + w[0] + ", " + w[1] + ")", x.lay(w[0], w[1]), -1);
        }
        nothing(x);
        for (int apart = 4; apart <= 2097152; apart *= 2) {
            Due.holds("lay(4, " + apart + ")", x.lay(4, apart) > 0);
        }
        Due.is("lay(65536, 4)", x.lay(65536, 4), 20);
        Due.is("order(-1)", x.order(-1), -1);
        Due.is("order(3)", x.order(3), -1);
        Due.is("laid(-1)", x.laid(-1), -14);
        Due.is("laid(5)", x.laid(5), -14);
        Due.is("weight(-1, 0)", x.weight(-1, 0), -14);
        Due.is("weight(1, 0)", x.weight(1, 0), -14);
        Due.is("weight(0, 2)", x.weight(0, 2), -14);
        Due.is("weight(0, -1)", x.weight(0, -1), -14);
        Due.is("moved() of no word", x.moved(p.textAddress() + 2), -14);
        Due.is("moved() of the TEXT's end", x.moved(p.textAddress() + 20), -14);
        Due.is("moved() before the TEXT", x.moved(p.textAddress() - 4), -14);
        Due.is("moved(-4)", x.moved(-4), -14);
        Due.is("out(-1)", x.out(-1), -1);
        Due.is("out(size())", x.out(x.size()), -1);
        Due.is("out(0)", x.out(0), 127);
        Due.is("run(-1, 0)", x.run(-1, 0), -1);
        Due.is("run(3, 0)", x.run(3, 0), -1);
        Due.is("run(0, -1)", x.run(0, -1), -1);
        Due.is("run(2, 4097)", x.run(2, 4097), -1);
        Due.is("run(0, 4096)", x.run(0, 4096), 1);
        Due.is("a refused run changes nothing", x.run(0, 4097), -1);
        Due.is("told(0, 5)", x.told(0, 5), 1);
        Due.is("told(0, 6)", x.told(0, 6), -14);
        Due.is("told(0, -1)", x.told(0, -1), -14);
        Due.is("told(1, 0)", x.told(1, 0), -14);
        Due.is("register(0, 32)", x.register(0, 32), 0);
        Due.is("register(0, -1)", x.register(0, -1), 0);
        Due.is("kind(0) without run 1", x.kind(0), -1);
        x.run(1, 4096);
        Due.is("kind(32)", x.kind(32), -1);
        Due.is("kind(-1)", x.kind(-1), -1);
        Due.is("newer(32)", x.newer(32), 0);
        Due.is("newer(31)", x.newer(31), 2147483648L);
        Due.is("kind(31)", x.kind(31), 0);
    }

    /** More calls than an object is promised to be good for: the limits cannot be met with fewer. */
    private static void trayLimits() {
        CodeLayout x = new CodeLayout();
        for (int i = 1; i <= 3000; i++) {
            x.feed(0, 0, 0, 0, 0);
        }
        Due.is("more than 60000 in the tray", x.feed(0, 0, 0, 0, 0), -1);
        Due.holds("a refused one leaves the tray as it is", !x.end(60001) && x.end(60000));
        Due.holds("end(59981)", x.end(59981));
        Due.is("one more than 60000", x.feed(0, 0, 0, 0, 0), -1);
        Due.holds("end(59980)", x.end(59980));
        Due.is("just 60000", x.feed(0, 0, 0, 0, 0), 60000);
        x.read();
        for (int i = 1; i <= 3000; i++) {
            x.feed(0, 0, 0, 0, 0);
        }
        x.read();
        // What end() takes away was fed all the same: 3001 and 3000 times till now, and 6553 times are 131060 bytes.
        for (int i = 1; i <= 552; i++) {
            Due.is("feed()", x.feed(0, 0, 0, 0, 0), 20 * i);
        }
        Due.is("more than 131072 in all", x.feed(0, 0, 0, 0, 0), -1);
        Due.holds("end(0)", x.end(0));
        Due.is("an empty tray is no help", x.feed(0, 0, 0, 0, 0), -1);
    }
}
