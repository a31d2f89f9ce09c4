/** Terms 3 to 5: ties and limits of counting, of ordering and of writing. */
public final class LayEdgesTest {
    public static void main(String[] args) {
        countLimits();
        refusedEdges();
        refusedCalls();
        pagesAndAparts();
        lesserFrom();
        lesserTo();
        greaterCount();
        neverToTheFirst();
        notIntoAChain();
        notRound();
        leastBlockFirst();
        greatestSum();
        sumOfBothWays();
        notAboveByNumber();
        toldInAnyOrder();
        coldFunctionBetween();
        aloneInItsBlock();
        toTheNextBlock();
        equalHeat();
        callsAreNoWays();
        sumOfOneCaller();
        callsOfOthers();
        callersInAnyOrder();
        clusterOfClusters();
        sizeOfTheWholeCluster();
        callerInTheSameCluster();
        manyHeats();
        noCaller();
        justThePage();
        equalQuotients();
        zeroHeat();
        multipleOfApart();
        noColdRow();
        noHotRow();
        grows();
        shrinks();
        turnedConditions();
        nextThatIsTaken();
        neitherIsBehind();
        cascade();
        sizesOfFunctions();
        symbolAtAnEndLeftOut();
        farthestCalls();
        layAgain();
        afterAnotherFile();
        beyondWhatIsLaid();
        Due.end("LayEdgesTest");
    }

    private static long last(CodeLayout x, int b) {
        return x.block(b, 0) + 4 * x.block(b, 1) - 4;
    }

    private static void edge(CodeLayout x, int u, int v, int count) {
        Due.is("edge(" + u + ", " + v + ")", x.edge(last(x, u), x.block(v, 0), count), 0);
    }

    private static void row(String what, CodeLayout x, int... due) {
        for (int k = 0; k < due.length; k++) {
            Due.is(what + ": order(" + k + ")", x.order(k), due[k]);
        }
        Due.is(what + ": order() beyond", x.order(due.length), -1);
        Due.is(what + ": check()", x.check(), 0);
        Due.is(what + ": strays()", x.strays(), 0);
    }

    /** One function; block i goes on, or to the block that is told; the last one returns. */
    private static CodeLayout blocks(int... taken) {
        Prog p = new Prog();
        p.function("f");
        for (int i = 0; i < taken.length; i++) {
            p.label("b" + i).put(Word.NOP).cbz(1, "b" + taken[i]);
        }
        p.label("b" + taken.length).put(Word.ret(30));
        CodeLayout x = Feeder.read(p.file(), 1);
        Due.is("blocks", x.count(1), taken.length + 1);
        return x;
    }

    private static void countLimits() {
        CodeLayout x = blocks(2, 2);
        for (int count : new int[] {0, -1, Integer.MIN_VALUE, 1000000001, Integer.MAX_VALUE}) {
            Due.is("count " + count, x.edge(last(x, 0), x.block(1, 0), count), -1);
        }
        Due.is("nothing is counted", x.way(0, 1), 0);
        edge(x, 0, 1, 1);
        edge(x, 0, 1, 1000000000);
        edge(x, 0, 1, 1000000000);
        edge(x, 0, 1, 1000000000);
        Due.is("more than an int holds", x.way(0, 1), 3000000001L);
        Due.is("count of a block", x.block(1, 7), 3000000001L);
        x.lay(4, 4);
        Due.is("weight", x.weight(0, 0), 3000000001L);
        Due.is("weight as laid", x.weight(0, 1), 3000000001L);
    }

    private static void refusedEdges() {
        CodeLayout x = blocks(2, 2);
        long from = last(x, 0);
        long to = x.block(1, 0);
        long behind = x.block(2, 0) + 4;
        Due.is("count before from", x.edge(1, 1, 0), -1);
        Due.is("from before to", x.edge(from - 4, to + 4, 1), -2);
        Due.is("to before the way", x.edge(from, to + 4, 1), -3);
        for (long wrong : new long[] {from - 4, from - 1, from + 1, from + 2, from + 3, from + 4, behind, 0, -4,
            from | 1L << 32, from | Long.MIN_VALUE}) {
            Due.is("from " + wrong, x.edge(wrong, to, 1), -2);
        }
        for (long wrong : new long[] {to + 4, to - 1, to + 1, to + 2, to + 3, to - 4, behind, 0, -4, to | 1L << 32,
            to | Long.MIN_VALUE}) {
            Due.is("to " + wrong, x.edge(from, wrong, 1), -3);
        }
        Due.is("no way to itself", x.edge(from, x.block(0, 0), 1), -4);
        Due.is("no way from RET", x.edge(last(x, 2), x.block(0, 0), 1), -4);
        for (int u = -1; u < 4; u++) {
            for (int v = -1; v < 4; v++) {
                Due.is("way()", x.way(u, v), 0);
                Due.is("calls()", x.calls(u, v), 0);
            }
        }
    }

    /** Blocks: a 0 none, 1 BR; b 2 BL c, 3 none, 4 BR, 5 RET; c 6 RET; d 7 RET. Named are 1, 3, 6. */
    private static void refusedCalls() {
        Prog p = new Prog();
        p.data(6, 32);
        p.function("a").put(Word.NOP).label("a1").put(Word.br(1));
        p.function("b").bl("c").label("b1").put(Word.NOP).label("b2").put(Word.br(1), Word.ret(30));
        p.function("c").put(Word.ret(30));
        p.function("d").put(Word.ret(30));
        p.pointer(0, 0, "a1").pointer(0, 8, "b1").pointer(0, 16, "c").pointer(0, 24, "b2");
        CodeLayout x = Feeder.read(p.file(), 4);
        Due.is("blocks", x.count(1), 8);
        int[][] wrong = {{2, 7}, {2, 2}, {2, 0}, {2, 4}, {4, 1}, {4, 6}, {4, 0}, {4, 2}, {4, 7}, {1, 3}, {1, 2}, {5, 3},
            {5, 4}, {5, 2}, {6, 6}, {0, 0}, {3, 3}};
        for (int[] w : wrong) {
            Due.is("from " + w[0] + " to " + w[1], x.edge(last(x, w[0]), x.block(w[1], 0), 1), -4);
        }
        int[][] right = {{0, 1}, {1, 1}, {2, 3}, {2, 6}, {3, 4}, {4, 3}, {4, 4}};
        for (int[] r : right) {
            edge(x, r[0], r[1], 1);
        }
        Due.is("one call", x.calls(1, 2), 1);
        Due.is("it is no way", x.way(2, 6), 0);
        Due.is("ways", x.way(4, 3) + x.way(4, 4) + x.way(2, 3), 3);
    }

    private static void pagesAndAparts() {
        CodeLayout x = blocks(2, 2);
        for (int page : new int[] {Integer.MIN_VALUE, -1, 0, 3, 65537, Integer.MAX_VALUE}) {
            Due.is("page " + page, x.lay(page, 4), -1);
        }
        for (int apart = -9; apart < 140; apart++) {
            boolean fits = apart == 4 || apart == 8 || apart == 16 || apart == 32 || apart == 64 || apart == 128;
            if (!fits) {
                Due.is("apart " + apart, x.lay(4, apart), -1);
            }
        }
        for (int apart : new int[] {2097151, 2097153, 4194304, 1 << 30, Integer.MIN_VALUE, Integer.MAX_VALUE}) {
            Due.is("apart " + apart, x.lay(4, apart), -1);
        }
        Due.is("nothing is laid", x.size(), -14);
        Due.is("page 4", x.lay(4, 4), 20);
        Due.is("page 65536", x.lay(65536, 4), 20);
        Due.is("a refused one changes nothing", x.lay(4, 12), -1);
        Due.is("what is laid", x.laid(0), 0);
    }

    /** Two ways of one count to one block: that of the lesser u is looked at first. */
    private static void lesserFrom() {
        CodeLayout x = blocks(6, 5, 5, 6, 6, 6);
        edge(x, 2, 5, 5);
        edge(x, 1, 5, 5);
        edge(x, 0, 1, 1);
        edge(x, 4, 6, 1);
        x.lay(4, 4);
        row("the lesser u", x, 0, 1, 5, 2, 4, 6, 3);
        Due.is("weight by number", x.weight(0, 0), 1);
        Due.is("weight as laid", x.weight(0, 1), 7);
    }

    /** Two ways of one count from one block: that to the lesser v is looked at first. */
    private static void lesserTo() {
        CodeLayout x = blocks(6, 5, 6, 6, 6, 6);
        edge(x, 1, 5, 5);
        edge(x, 1, 2, 5);
        edge(x, 0, 1, 1);
        edge(x, 2, 6, 1);
        x.lay(4, 4);
        row("the lesser v", x, 0, 1, 2, 6, 5, 3, 4);
        Due.is("weight as laid", x.weight(0, 1), 7);
    }

    private static void greaterCount() {
        CodeLayout x = blocks(6, 5, 6, 6, 6, 6);
        edge(x, 1, 2, 5);
        edge(x, 1, 5, 6);
        edge(x, 0, 1, 1);
        edge(x, 2, 6, 1);
        x.lay(4, 4);
        row("the greater count", x, 0, 1, 5, 2, 6, 3, 4);
        Due.is("weight as laid", x.weight(0, 1), 8);
    }

    /** No chain goes on with the function's first block, however often that way was gone. */
    private static void neverToTheFirst() {
        CodeLayout x = blocks(2, 2, 0);
        edge(x, 2, 0, 100);
        edge(x, 0, 2, 5);
        x.lay(4, 4);
        row("the first block stays first", x, 0, 2, 1, 3);
        Due.is("weight as laid", x.weight(0, 1), 5);
    }

    private static void notIntoAChain() {
        CodeLayout x = blocks(4, 4, 4, 2, 5);
        // 3 goes to 2, and 2 to 4: then 1 cannot go to 2, nor 2 to 3.
        edge(x, 3, 2, 9);
        edge(x, 2, 4, 8);
        edge(x, 1, 2, 7);
        edge(x, 2, 3, 6);
        edge(x, 0, 1, 5);
        x.lay(4, 4);
        row("chains 3 2 4 and 0 1", x, 0, 1, 3, 2, 4, 5);
        Due.is("weight as laid", x.weight(0, 1), 22);
        Due.is("weight by number", x.weight(0, 0), 18);
    }

    private static void notRound() {
        CodeLayout x = blocks(3, 3, 1, 4);
        edge(x, 1, 2, 9);
        edge(x, 2, 1, 8);
        edge(x, 0, 3, 7);
        edge(x, 1, 3, 1);
        x.lay(4, 4);
        // 0 3 and 1 2; 3 has no way on that was gone.
        row("a ring is cut", x, 0, 3, 1, 2, 4);
        Due.is("weight as laid", x.weight(0, 1), 16);
        CodeLayout y = blocks(3, 3, 1, 4, 6, 6);
        edge(y, 1, 2, 9);
        edge(y, 2, 1, 8);
        edge(y, 0, 3, 7);
        edge(y, 1, 3, 1);
        edge(y, 5, 6, 2);
        y.lay(4, 4);
        row("with a chain behind it", y, 0, 3, 1, 2, 5, 6, 4);
        Due.is("weight as laid", y.weight(0, 1), 18);
    }

    /** The function's first block is cold: the chain with the least block comes first, wherever that is in it. */
    private static void leastBlockFirst() {
        CodeLayout x = blocks(5, 5, 5, 1, 5);
        edge(x, 3, 1, 8);
        edge(x, 2, 5, 9);
        x.lay(4, 4);
        row("3 1, then 2 5", x, 3, 1, 2, 5, 0, 4);
        Due.is("weight as laid", x.weight(0, 1), 17);
    }

    /** Block 0 leaps to blocks that are named; these ways do not fall, but they tell what comes next. */
    private static CodeLayout leaps(int back) {
        Prog p = new Prog();
        p.data(6, 32);
        p.function("f").label("b0").put(Word.br(1));
        p.label("b1").put(Word.NOP).cbz(1, "b6");
        p.label("b2").put(Word.NOP).cbz(1, "b" + back);
        p.label("b3").put(Word.NOP).cbz(1, "b6");
        p.label("b4").put(Word.NOP).cbz(1, "b6");
        p.label("b5").put(Word.NOP).cbz(1, "b6");
        p.label("b6").put(Word.ret(30));
        p.pointer(0, 0, "b2").pointer(0, 8, "b3").pointer(0, 16, "b5");
        return Feeder.read(p.file(), 1);
    }

    private static void greatestSum() {
        CodeLayout x = leaps(6);
        edge(x, 0, 2, 3);
        edge(x, 0, 5, 5);
        edge(x, 0, 3, 5);
        edge(x, 3, 6, 1);
        x.lay(4, 4);
        // The chain 3 6 and 5 have 5 each, the one with the lesser block comes first.
        row("by sums", x, 0, 3, 6, 5, 2, 1, 4);
        edge(x, 0, 5, 1);
        x.lay(4, 4);
        row("5 has more now", x, 0, 5, 3, 6, 2, 1, 4);
        edge(x, 0, 2, 4);
        x.lay(4, 4);
        row("2 has most", x, 0, 2, 5, 3, 6, 1, 4);
    }

    private static void sumOfBothWays() {
        CodeLayout x = leaps(0);
        edge(x, 0, 2, 3);
        edge(x, 2, 0, 3);
        edge(x, 0, 5, 5);
        edge(x, 3, 6, 1);
        edge(x, 0, 3, 1);
        x.lay(4, 4);
        // 2 has 3 from 0 and 3 to it; then 5; then 3 6.
        row("from and to", x, 0, 2, 5, 3, 6, 1, 4);
        CodeLayout y = leaps(3);
        edge(y, 0, 5, 5);
        edge(y, 0, 2, 4);
        edge(y, 2, 3, 9);
        edge(y, 3, 6, 1);
        y.lay(4, 4);
        row("sums grow with what is placed", y, 0, 5, 2, 3, 6, 1, 4);
    }

    private static void notAboveByNumber() {
        CodeLayout x = blocks(2, 2, 3);
        edge(x, 0, 2, 5);
        edge(x, 0, 1, 3);
        edge(x, 1, 2, 2);
        x.lay(4, 4);
        row("5 is not above 5", x, 0, 1, 2, 3);
        Due.is("weight by number", x.weight(0, 0), 5);
        Due.is("weight as laid", x.weight(0, 1), 5);
        edge(x, 0, 2, 1);
        x.lay(4, 4);
        row("6 is above 5", x, 0, 2, 1, 3);
        Due.is("weight by number", x.weight(0, 0), 5);
        Due.is("weight as laid", x.weight(0, 1), 6);
        CodeLayout y = blocks(2, 2, 3);
        edge(y, 0, 2, 5);
        edge(y, 0, 1, 4);
        edge(y, 1, 2, 4);
        y.lay(4, 4);
        row("5 is below 8", y, 0, 1, 2, 3);
        Due.is("weight as laid", y.weight(0, 1), 8);
        // What counts is the weight of the hot blocks by number, not of all.
        CodeLayout z = blocks(3, 3, 4, 4);
        edge(z, 0, 3, 5);
        edge(z, 0, 1, 3);
        edge(z, 1, 3, 2);
        z.lay(4, 4);
        row("5 is not above 5, though above 3", z, 0, 1, 3, 2, 4);
        Due.is("weight by number", z.weight(0, 0), 3);
        Due.is("weight as laid", z.weight(0, 1), 5);
    }

    /** Of ways and calls only how often they were gone says something, not when that was told. */
    private static void toldInAnyOrder() {
        int[][] edges = {{0, 1, 3}, {0, 4, 5}, {1, 2, 2}, {1, 6, 5}, {2, 3, 1}, {2, 7, 9}, {3, 1, 4}, {4, 5, 5}, {5, 2, 5},
            {6, 7, 3}, {7, 0, 6}, {7, 8, 4}};
        int[] steps = {1, 5, 7, 11};
        CodeLayout first = null;
        for (int step : steps) {
            for (int from = 0; from < 12; from += 5) {
                CodeLayout x = blocks(4, 6, 7, 1, 7, 2, 0, 0);
                for (int i = 0; i < 12; i++) {
                    int[] e = edges[(from + step * i) % 12];
                    edge(x, e[0], e[1], e[2]);
                }
                x.lay(4, 4);
                if (first == null) {
                    first = x;
                }
                for (int k = 0; k < 9; k++) {
                    Due.is("order(" + k + ")", x.order(k), first.order(k));
                }
                Due.is("weight", x.weight(0, 1), first.weight(0, 1));
            }
        }
        // 2 7; then 0 4, 1 6, 4 5 and 5 2 of five each; 3 1; 7 8; the first block goes on to 4 5 2 7 8, then 3 1 6.
        row("as it is worked out", first, 0, 4, 5, 2, 7, 8, 3, 1, 6);
        Due.is("weight", first.weight(0, 1), 5 + 5 + 5 + 9 + 4 + 4 + 5);
    }

    /** A function whose blocks are chained, one that is cold, and one that is hot. */
    private static void coldFunctionBetween() {
        Prog p = new Prog();
        for (int f = 0; f < 3; f++) {
            String n = "f" + f;
            p.function(n).put(Word.NOP).cbz(1, n + "c").put(Word.NOP, Word.ret(29)).label(n + "c").put(Word.NOP);
            p.b(n + "e").put(Word.ret(28)).label(n + "e").put(Word.ret(30));
        }
        CodeLayout x = Feeder.read(p.file(), 3);
        for (int f = 0; f < 3; f += 2) {
            edge(x, 5 * f, 5 * f + 2, 9);
            edge(x, 5 * f, 5 * f + 1, 2);
            edge(x, 5 * f + 2, 5 * f + 4, 8);
        }
        x.lay(4, 4);
        row("both chained", x, 0, 2, 4, 1, 10, 12, 14, 11, 3, 5, 6, 7, 8, 9, 13);
        Due.is("weight", x.weight(0, 1), 17);
        Due.is("weight of the cold one", x.weight(1, 1), 0);
        Due.is("weight", x.weight(2, 1), 17);
    }

    private static Prog withB(boolean alone, String label) {
        Prog p = new Prog();
        p.function("f").cbz(1, "c").label("b");
        if (!alone) {
            p.put(Word.NOP);
        }
        return p.b(label).label("c").put(Word.ret(30)).label("d").put(Word.ret(29));
    }

    /** B falls, and is left out, if it is not alone and does not go to the next block. */
    private static void aloneInItsBlock() {
        CodeLayout x = Feeder.read(withB(false, "d").file(), 1);
        edge(x, 0, 1, 4);
        edge(x, 1, 3, 4);
        x.lay(4, 4);
        Due.is("not alone", x.weight(0, 1), 8);
        Due.is("left out", x.laid(2), 1);
        CodeLayout y = Feeder.read(withB(true, "d").file(), 1);
        edge(y, 0, 1, 4);
        edge(y, 1, 3, 4);
        y.lay(4, 4);
        Due.is("alone", y.weight(0, 1), 4);
        Due.is("stays", y.laid(2), 0);
    }

    private static void toTheNextBlock() {
        CodeLayout x = Feeder.read(withB(false, "c").file(), 1);
        edge(x, 0, 1, 4);
        edge(x, 1, 2, 4);
        x.lay(4, 4);
        Due.is("to the next block", x.weight(0, 1), 4);
        Due.is("by number", x.weight(0, 0), 4);
        Due.is("stays", x.laid(2), 0);
        Due.is("all words stay", x.lay(4, 4), 20);
        CodeLayout y = Feeder.read(withB(false, "b").file(), 1);
        edge(y, 1, 1, 4);
        y.lay(4, 4);
        Due.is("to itself", y.weight(0, 1), 0);
        Due.is("stays", y.laid(2), 0);
    }

    /** Function f has blocks 3 f and 3 f + 1, which call by a register, and 3 f + 2, which returns. */
    private static CodeLayout functions(int... nops) {
        Prog p = new Prog();
        for (int f = 0; f < nops.length; f++) {
            p.function("f" + f);
            for (int i = 0; i < nops[f]; i++) {
                p.put(Word.NOP);
            }
            p.put(Word.blr(1), Word.blr(2), Word.ret(30));
        }
        return Feeder.read(p.file(), nops.length);
    }

    private static void call(CodeLayout x, int f, int g, int count) {
        edge(x, 3 * f, 3 * g, count);
    }

    private static void hotRow(String what, CodeLayout x, int... due) {
        for (int k = 0; k < due.length; k++) {
            Due.is(what + ": order(" + k + ")", x.order(k), due[k]);
        }
        Due.is(what + ": laid(0)", x.laid(0), due.length);
    }

    /** Of functions of one heat the lesser number is looked at first, and takes the room. */
    private static void equalHeat() {
        CodeLayout x = functions(1, 1, 1);
        call(x, 0, 2, 7);
        call(x, 0, 1, 7);
        x.lay(16, 4);
        hotRow("the lesser one is put behind", x, 6, 0, 3);
        call(x, 0, 2, 1);
        x.lay(16, 4);
        hotRow("the hotter one is put behind", x, 3, 0, 6);
    }

    /** Block 1 of f calls f itself, or a function before it; where its chain comes, only ways tell. */
    private static void callsAreNoWays() {
        for (int before = 0; before < 2; before++) {
            Prog p = new Prog();
            p.data(6, 32);
            if (before > 0) {
                p.function("g").put(Word.ret(30));
            }
            p.function("f").put(Word.NOP, Word.br(1)).label("b1").put(Word.NOP).bl(before > 0 ? "g" : "f");
            p.put(Word.ret(30)).label("b3").put(Word.NOP, Word.ret(30)).label("b4").put(Word.ret(30));
            p.label("b5").put(Word.NOP).b("b4");
            p.pointer(0, 0, "b1").pointer(0, 8, "b3").pointer(0, 16, "b5");
            CodeLayout x = Feeder.read(p.file(), 1 + before);
            edge(x, before, before + 1, 3);
            edge(x, before, before + 3, 5);
            edge(x, before, before + 5, 1);
            edge(x, before + 5, before + 4, 9);
            edge(x, before + 1, 0, 100);
            Due.is("calls", x.calls(before, 0), 100);
            x.lay(4, 4);
            if (before > 0) {
                row("a call of another", x, 0, 1, 4, 2, 6, 5, 3);
            } else {
                row("a call of itself", x, 0, 3, 1, 5, 4, 2);
            }
            Due.is("weight", x.weight(before, 1), 9);
        }
    }

    /** The caller of f is the one with the most calls of f; what it calls else says nothing. */
    private static void callsOfOthers() {
        CodeLayout x = functions(1, 1, 1, 1);
        call(x, 0, 3, 5);
        call(x, 1, 3, 4);
        call(x, 1, 2, 100);
        edge(x, 3, 4, 1000);
        x.lay(32, 4);
        hotRow("3 behind 0, 2 behind 1", x, 3, 4, 6, 0, 9);
        // What an earlier lay() summed up is forgotten.
        CodeLayout y = functions(1, 1, 1, 1);
        call(y, 0, 3, 5);
        call(y, 1, 3, 7);
        for (int times = 0; times < 4; times++) {
            y.lay(32, 4);
            hotRow("3 behind 1, time " + times, y, 3, 9, 0);
        }
    }

    /** Calls of one function from several blocks of another are one sum. */
    private static void sumOfOneCaller() {
        CodeLayout x = functions(1, 1, 1, 1);
        call(x, 0, 3, 5);
        call(x, 1, 3, 3);
        edge(x, 4, 9, 3);
        Due.is("calls(0, 3)", x.calls(0, 3), 5);
        Due.is("calls(1, 3)", x.calls(1, 3), 6);
        x.lay(64, 4);
        hotRow("behind function 1", x, 3, 4, 9, 0);
        call(x, 0, 3, 1);
        x.lay(64, 4);
        hotRow("of equal callers the least", x, 0, 9, 3, 4);
    }

    /** The caller is the one with the most calls, of equal ones the least, whenever they were told. */
    private static void callersInAnyOrder() {
        int[][] told = {{0, 1, 2}, {2, 1, 0}, {1, 2, 0}, {2, 0, 1}, {1, 0, 2}, {0, 2, 1}};
        for (int[] order : told) {
            for (int most = 0; most < 3; most++) {
                CodeLayout x = functions(1, 1, 1, 1);
                CodeLayout y = functions(1, 1, 1, 1);
                for (int f : order) {
                    call(x, f, 3, f == most ? 9 : 4);
                    call(y, f, 3, f < most ? 4 : 9);
                }
                x.lay(16, 4);
                y.lay(16, 4);
                Due.is("the most calls", x.order(0), 3 * most);
                Due.is("3 behind it", x.order(1), 9);
                Due.is("of equal ones the least", y.order(0), 3 * most);
                Due.is("3 behind it", y.order(1), 9);
            }
        }
    }

    /** A cluster put behind another takes all its functions with it. */
    private static void clusterOfClusters() {
        CodeLayout x = functions(1, 1, 1, 1, 1);
        call(x, 1, 2, 10);
        call(x, 0, 1, 9);
        call(x, 2, 3, 8);
        call(x, 4, 0, 7);
        x.lay(4096, 4);
        // 2 behind 1; both behind 0; 3 behind these three; all behind 4.
        hotRow("five in one", x, 12, 0, 3, 6, 9);
        x.lay(24, 4);
        hotRow("three at most", x, 0, 3, 6, 9, 12);
        x.lay(16, 4);
        hotRow("two at most", x, 3, 6, 9, 12, 0);
    }

    /** What was put behind another cluster belongs to it wholly: its size counts for all its functions. */
    private static void sizeOfTheWholeCluster() {
        CodeLayout x = functions(1, 1, 1, 1, 1, 1);
        call(x, 1, 2, 1000);
        call(x, 0, 1, 900);
        call(x, 5, 5, 830);
        call(x, 2, 3, 800);
        call(x, 4, 0, 700);
        x.lay(24, 4);
        // 2 behind 1, both behind 0: these three are full, though 1 and 2 alone would have room for 3.
        hotRow("3 does not come in", x, 0, 3, 6, 15, 9, 12);
        x.lay(32, 4);
        // 3400 over 32 is above 830 over 8; 4 has no room.
        hotRow("3 comes in", x, 0, 3, 6, 9, 15, 12);
        x.lay(40, 4);
        hotRow("4 as well, 3400 over 40 is less", x, 15, 12, 0, 3, 6, 9);
    }

    /** The caller is in the same cluster already, though not its first function: nothing is put anywhere. */
    private static void callerInTheSameCluster() {
        CodeLayout x = functions(1, 1, 1);
        call(x, 1, 2, 10);
        call(x, 0, 1, 9);
        call(x, 2, 0, 8);
        x.lay(4096, 4);
        // 2 behind 1, both behind 0; 0's caller is 2.
        hotRow("a ring of calls", x, 0, 3, 6);
        CodeLayout y = functions(1, 1, 1);
        call(y, 0, 1, 9);
        call(y, 1, 0, 9);
        call(y, 2, 2, 1);
        y.lay(4096, 4);
        // 0 is looked at first and put behind 1.
        hotRow("each calls the other", y, 3, 0, 6);
    }

    private static void manyHeats() {
        int[][] told = {{1, 2, 3, 4}, {4, 3, 2, 1}, {2, 4, 1, 3}, {3, 1, 4, 2}};
        for (int[] order : told) {
            CodeLayout x = functions(1, 1, 1, 1, 1);
            for (int f : order) {
                call(x, 0, f, 10 * f);
            }
            // Each fits with 0, but not two: the hottest is looked at first.
            x.lay(16, 4);
            hotRow("4 with 0, the others by heat", x, 9, 0, 12, 6, 3);
            x.lay(24, 4);
            hotRow("4 and 3 with 0", x, 0, 12, 9, 6, 3);
        }
    }

    private static void noCaller() {
        CodeLayout x = functions(1, 1);
        call(x, 1, 1, 9);
        call(x, 0, 0, 9);
        x.lay(64, 4);
        hotRow("its own calls make no caller", x, 0, 3);
        call(x, 1, 1, 1);
        x.lay(64, 4);
        hotRow("by heat over size", x, 3, 0);
        call(x, 1, 0, 1);
        x.lay(64, 4);
        hotRow("one call of another is enough", x, 3, 0);
        Due.is("heat", x.function(0, 3), 10);
    }

    private static void justThePage() {
        CodeLayout x = functions(3, 5, 0);
        call(x, 0, 1, 9);
        // Sizes 16 and 24.
        x.lay(40, 4);
        hotRow("just the page", x, 0, 3);
        x.lay(39, 4);
        hotRow("a byte less", x, 3, 0);
        call(x, 1, 2, 8);
        x.lay(44, 4);
        hotRow("three, just the page", x, 0, 3, 6);
        x.lay(43, 4);
        hotRow("the third is too much", x, 6, 0, 3);
    }

    /** Heat over size the same: the cluster with the least function, wherever that is in it. */
    private static void equalQuotients() {
        CodeLayout x = functions(1, 1, 1, 1);
        call(x, 3, 1, 10);
        call(x, 2, 2, 5);
        x.lay(64, 4);
        // 10 over 16 and 5 over 8.
        hotRow("3 1, then 2", x, 9, 3, 6);
        call(x, 2, 2, 1);
        x.lay(64, 4);
        hotRow("6 over 8 is more", x, 6, 9, 3);
        CodeLayout y = functions(2, 1);
        call(y, 0, 0, 1000000000);
        call(y, 1, 1, 666666667);
        y.lay(4, 4);
        hotRow("1000000000 over 12 is less than 666666667 over 8", y, 3, 0);
    }

    private static void zeroHeat() {
        CodeLayout x = functions(5, 1, 0);
        edge(x, 3, 4, 1);
        edge(x, 0, 1, 7);
        call(x, 2, 2, 1);
        x.lay(64, 4);
        hotRow("what was never called comes last, by number", x, 6, 0, 1, 3, 4);
    }

    private static Prog twoRows(int hotWords) {
        Prog p = new Prog();
        p.function("f").cbz(1, "cold");
        for (int i = 2; i < hotWords; i++) {
            p.put(Word.NOP);
        }
        return p.put(Word.ret(30)).label("cold").put(Word.NOP, Word.ret(29));
    }

    /** The cold row begins at the first multiple of APART, and that may be the hot row's end. */
    private static void multipleOfApart() {
        for (int words = 2; words < 40; words++) {
            Prog p = twoRows(words);
            CodeLayout x = Feeder.read(p.file(), 1);
            edge(x, 0, 1, 1);
            for (int apart = 4; apart <= 256; apart *= 2) {
                long end = p.textAddress() + 4 * words;
                long cold = end;
                while (cold % apart != 0) {
                    cold += 4;
                }
                Due.is("lay()", x.lay(4, apart), cold + 8 - p.textAddress());
                Due.is("the cold row", x.moved(p.address("cold")), cold);
                for (long at = end; at < cold; at++) {
                    Due.is("between", x.out(p.textOffset() + (int) (at - p.textAddress())), 0);
                }
                Due.is("the first byte of the cold row", x.out(p.textOffset() + (int) (cold - p.textAddress())), 0x1F);
                Due.is("check()", x.check(), 0);
            }
        }
    }

    private static void noColdRow() {
        Prog p = twoRows(5);
        CodeLayout x = Feeder.read(p.file(), 1);
        edge(x, 0, 1, 1);
        edge(x, 0, 2, 1);
        for (int apart = 4; apart <= 2097152; apart *= 2) {
            Due.is("lay()", x.lay(4, apart), 28);
            Due.is("size()", x.size(), p.file().length);
        }
        Due.is("laid(0)", x.laid(0), 3);
    }

    private static void noHotRow() {
        Prog p = twoRows(5);
        CodeLayout x = Feeder.read(p.file(), 1);
        for (int apart = 4; apart <= 2097152; apart *= 2) {
            long cold = (p.textAddress() + apart - 1) / apart * apart;
            Due.is("lay()", x.lay(4, apart), cold - p.textAddress() + 28);
            Due.is("moved()", x.moved(p.textAddress()), cold);
            Due.is("check()", x.check(), 0);
            Due.is("run(2)", x.run(2, 9), 2);
            Due.is("visits", x.told(2, 0), 2);
            int shift = x.size() - p.file().length;
            Due.is("the first symbol's VALUE", longOut(x, p.symbolAt(1) + shift + 8), cold);
            Due.is("ENTRY", longOut(x, 24), cold);
            Due.is("the first symbol", longOut(x, p.symbolAt(0) + shift + 8), 0);
        }
        Due.is("laid(0)", x.laid(0), 0);
    }

    private static void tailStands(String what, Prog p, CodeLayout x, int newBytes) {
        int change = newBytes - x.count(2);
        int shift = Math.floorDiv(change + 15, 16) * 16;
        Due.is(what + ": size()", x.size(), p.file().length + shift);
        int end = p.textOffset() + newBytes;
        for (int at = end; at < p.textEnd() + shift; at++) {
            Due.is(what + ": a byte behind the TEXT", x.out(at), 0);
        }
        for (int i = 0; i < p.noteBytes; i++) {
            Due.is(what + ": a note's byte", x.out(p.nameOffset() + 8 + shift + i), i + 1);
        }
        Due.is(what + ": check()", x.check(), 0);
        Due.is(what + ": the last byte", x.out(x.size() - 1), p.file()[p.file().length - 1]);
        Due.is(what + ": none behind it", x.out(x.size()), -1);
    }

    /** Each BLR gets a B behind it: the new TEXT is longer by one word to nine. */
    private static void grows() {
        for (int units = 1; units < 10; units++) {
            Prog p = new Prog();
            p.noteBytes = 5;
            p.function("f");
            for (int i = 0; i < units; i++) {
                p.label("u" + i).put(Word.blr(1)).b("u" + (i + 1));
            }
            p.label("u" + units).put(Word.ret(30));
            p.function("g").put(Word.ret(30));
            CodeLayout x = Feeder.read(p.file(), 2);
            for (int i = 0; i < units; i++) {
                Due.is("edge()", x.edge(p.address("u" + i), p.address("g"), 1), 0);
            }
            int bytes = x.lay(4096, 4);
            Due.is("lay()", bytes, x.count(2) + 4 * units);
            Due.is("Bs put behind", x.laid(4), units);
            tailStands(units + " more", p, x, bytes);
        }
    }

    /** Each B is left out: the new TEXT is shorter by one word to nine. */
    private static void shrinks() {
        for (int units = 1; units < 10; units++) {
            Prog p = new Prog();
            p.noteBytes = 5;
            p.function("f");
            for (int i = 0; i < units; i++) {
                p.label("u" + i).put(Word.NOP).b("u" + (i + 1)).put(Word.ret(29));
            }
            p.label("u" + units).put(Word.ret(30));
            CodeLayout x = Feeder.read(p.file(), 1);
            for (int i = 0; i < units; i++) {
                Due.is("edge()", x.edge(p.address("u" + i) + 4, p.address("u" + (i + 1)), 1), 0);
            }
            int bytes = x.lay(4096, 4);
            Due.is("lay()", bytes, x.count(2) - 4 * units);
            Due.is("ENDs left out", x.laid(2), units);
            tailStands(units + " less", p, x, bytes);
        }
    }

    private static int wordOut(CodeLayout x, int at) {
        return x.out(at) | x.out(at + 1) << 8 | x.out(at + 2) << 16 | x.out(at + 3) << 24;
    }

    /** Turned over, a condition's lowest bit changes either way; CBZ is for CBNZ, TBZ for TBNZ, and back. */
    private static void turnedConditions() {
        for (int condition = 0; condition < 14; condition++) {
            turned(0x54000060 | condition, 0x54000000 | condition ^ 1);
        }
        turned(0xB4000061, 0xB5000001);
        turned(0xB5000061, 0xB4000001);
        turned(0x34000061, 0x35000001);
        turned(0x35000061, 0x34000001);
        turned(0xB6F80061, 0xB7F80001);
        turned(0x37F80061, 0x36F80001);
    }

    /** The word goes three words on, to the block that comes to stand right behind it; NEXT comes two behind that. */
    private static void turned(int w, int due) {
        Prog p = new Prog();
        p.function("f").put(w).put(Word.NOP, Word.ret(29), Word.ret(30));
        CodeLayout x = Feeder.read(p.file(), 1);
        edge(x, 0, 2, 1);
        Due.is("lay()", x.lay(4, 4), 16);
        Due.is("turned over", wordOut(x, p.textOffset()), due | 2 << 5);
        Due.is("laid(3)", x.laid(3), 1);
        Due.is("laid(1)", x.laid(1), 0);
    }

    /** NEXT and TAKEN are one block: right behind, it goes there; elsewhere it goes there, with B to it behind. */
    private static void nextThatIsTaken() {
        Prog p = new Prog();
        p.function("f").cbz(1, "n").label("n").put(Word.NOP).b("f").put(Word.ret(30));
        CodeLayout x = Feeder.read(p.file(), 1);
        edge(x, 0, 1, 1);
        x.lay(4, 4);
        Due.is("right behind", wordOut(x, p.textOffset()), 0xB4000021);
        Due.is("nothing turned over", x.laid(3), 0);
        Due.is("nothing put behind", x.laid(4), 0);
        Prog q = new Prog();
        q.function("f").put(Word.blr(1)).cbz(1, "n").label("n").put(Word.ret(30));
        CodeLayout y = Feeder.read(q.file(), 1);
        edge(y, 0, 0, 1);
        Due.is("1 is cold", y.lay(4, 4), 16);
        edge(y, 0, 1, 1);
        Due.is("2 is cold", y.lay(4, 4), 16);
        Due.is("to it", wordOut(y, q.textOffset() + 4), 0xB4000041);
        Due.is("B to it", wordOut(y, q.textOffset() + 8), Prog.B | 1);
        Due.is("laid(3)", y.laid(3), 0);
        Due.is("laid(4)", y.laid(4), 1);
    }

    /** Neither NEXT nor TAKEN comes right behind, be TAKEN before or behind what does: to TAKEN, and B to NEXT. */
    private static void neitherIsBehind() {
        CodeLayout x = leaps(6);
        edge(x, 0, 2, 9);
        edge(x, 0, 5, 4);
        x.lay(4, 4);
        row("2 before 5", x, 0, 2, 5, 1, 3, 4, 6);
        Due.is("4 alone is turned over, to 5", x.laid(3), 1);
        Due.is("Bs put behind 2, 5, 1", x.laid(4), 3);
        CodeLayout y = leaps(1);
        edge(y, 0, 2, 9);
        edge(y, 0, 5, 4);
        y.lay(4, 4);
        row("2 before 5, TAKEN is 1", y, 0, 2, 5, 1, 3, 4, 6);
        Due.is("4 alone is turned over, to 5", y.laid(3), 1);
        Due.is("Bs put behind 2, 5, 1", y.laid(4), 3);
    }

    /** In the cold row one END that does not reach becomes long, and moves the next one out of its reach. */
    private static void cascade() {
        int[] seen = new int[3];
        for (int fill = 1; fill < 40; fill++) {
            Prog p = new Prog();
            p.higher = 1048576 - 65536;
            p.function("f").cbz(2, "h");
            for (int i = 0; i < fill; i++) {
                p.put(Word.NOP);
            }
            p.tbz(1, 1, "f").tbnz(1, 2, "k").put(Word.ret(30)).label("h").cbz(3, "k").label("k").put(Word.ret(29));
            CodeLayout x = Feeder.read(p.file(), 1);
            edge(x, 0, 4, 1);
            edge(x, 4, 5, 1);
            x.lay(4, 32768);
            long base = p.textAddress();
            long cold = (base + 12 + 32767) / 32768 * 32768;
            long first = (base - (cold + 4 * fill)) / 4;
            boolean firstIsLong = first < -8192;
            long second = (base + 8 - (cold + 4 * fill + 4)) / 4 - (firstIsLong ? 1 : 0);
            int due = (firstIsLong ? 1 : 0) + (second < -8192 ? 1 : 0);
            Due.is("long with " + fill, x.laid(1), due);
            Due.is("strays()", x.strays(), 0);
            seen[due]++;
            Due.is("moved", x.moved(p.textAddress() + 4 + 4 * fill + 4), cold + 4 * fill + 4 + (firstIsLong ? 4 : 0));
        }
        Due.holds("none long", seen[0] > 0);
        Due.is("never one alone: it moves the other", seen[1], 0);
        Due.holds("both long", seen[2] > 0);
    }

    private static long longOut(CodeLayout x, int at) {
        return wordOut(x, at) & 0xFFFFFFFFL | (long) wordOut(x, at + 4) << 32;
    }

    /** A function's SIZE: its blocks of the row in which its first one is, with what is put behind them. */
    private static void sizesOfFunctions() {
        Prog p = new Prog();
        p.function("f").put(Word.NOP, Word.blr(1), Word.NOP, Word.NOP, Word.ret(30));
        p.function("g").put(Word.NOP, Word.blr(1), Word.ret(30));
        CodeLayout x = Feeder.read(p.file(), 2);
        // f's first block alone is hot, with B behind it.
        edge(x, 0, 0, 1);
        x.lay(4, 64);
        int shift = x.size() - p.file().length;
        Due.is("f", longOut(x, p.symbolAt(p.functionSymbol(0)) + 16 + shift), 12);
        Due.is("g", longOut(x, p.symbolAt(p.functionSymbol(1)) + 16 + shift), 12);
        Due.is("g's VALUE", longOut(x, p.symbolAt(p.functionSymbol(1)) + 8 + shift), x.moved(p.address("g")));
        Due.is("the segment's SIZE", longOut(x, Prog.segmentHead(0) + 32), x.lay(4, 64));
        CodeLayout y = Feeder.read(p.file(), 2);
        edge(y, 2, 3, 1);
        y.lay(4, 64);
        shift = y.size() - p.file().length;
        Due.is("g is hot", longOut(y, p.symbolAt(p.functionSymbol(1)) + 16 + shift), 12);
        Due.is("f is cold", longOut(y, p.symbolAt(p.functionSymbol(0)) + 16 + shift), 20);
    }

    /** A symbol at an END that is left out is where that would stand. */
    private static void symbolAtAnEndLeftOut() {
        Prog p = new Prog();
        p.function("f").put(Word.NOP).bFixed("d").put(Word.ret(29)).label("d").put(Word.ret(30));
        p.symbol(0, p.textSection(), p.textAddress() + 4, 0);
        p.symbol(0, p.textSection(), p.textAddress() + 16, 0);
        CodeLayout x = Feeder.read(p.file(), 1);
        edge(x, 0, 2, 1);
        Due.is("lay()", x.lay(4, 4), 12);
        Due.is("moved()", x.moved(p.textAddress() + 4), p.textAddress() + 4);
        Due.is("the block behind it", x.moved(p.address("d")), p.textAddress() + 4);
        int shift = x.size() - p.file().length;
        int symbol = p.symbolAt(p.functionSymbol(1)) + shift;
        Due.is("VALUE", longOut(x, symbol + 8), p.textAddress() + 4);
        Due.is("the new end", longOut(x, symbol + 24 + 8), p.textAddress() + 12);
        Due.is("check()", x.check(), 0);
    }

    /** What was laid before leaves no trace in what is laid now. */
    private static void layAgain() {
        int[][] edges = {{0, 2}, {2, 5}, {1, 2}, {5, 1}, {4, 6}, {0, 1}, {3, 4}};
        int[] aparts = {2097152, 4, 65536, 32768, 8};
        for (int k = 0; k <= edges.length; k++) {
            CodeLayout used = Feeder.read(wide().file(), 2);
            for (int i = 0; i < k; i++) {
                edge(used, edges[i][0], edges[i][1], 1 + i % 3);
                used.lay(4 + i, aparts[i % 5]);
            }
            CodeLayout fresh = Feeder.read(wide().file(), 2);
            for (int i = 0; i < k; i++) {
                edge(fresh, edges[i][0], edges[i][1], 1 + i % 3);
            }
            alike(used, fresh, aparts[k % 5]);
            alike(used, fresh, 4);
        }
    }

    private static Prog wide() {
        Prog p = new Prog();
        p.function("f").label("b0").put(Word.NOP).tbz(1, 3, "b2").label("b1").put(Word.NOP).bFixed("b2");
        p.label("b2").put(Word.NOP).cbnz(1, "b5").label("b3").put(Word.blr(1)).label("b4").tbnz(2, 9, "b6");
        p.label("b5").put(Word.NOP).bFixed("b1").label("b6").put(Word.ret(30));
        p.function("g").label("b7").put(Word.NOP).b("f");
        return p;
    }

    private static void alike(CodeLayout used, CodeLayout fresh, int apart) {
        Due.is("lay()", used.lay(64, apart), fresh.lay(64, apart));
        Due.is("size()", used.size(), fresh.size());
        for (int what = 0; what < 5; what++) {
            Due.is("laid(" + what + ")", used.laid(what), fresh.laid(what));
        }
        for (int b = 0; b < fresh.count(1); b++) {
            Due.is("order()", used.order(b), fresh.order(b));
            Due.is("moved()", used.moved(used.block(b, 0)), fresh.moved(fresh.block(b, 0)));
        }
        for (int f = 0; f < 2; f++) {
            Due.is("weight(f, 0)", used.weight(f, 0), fresh.weight(f, 0));
            Due.is("weight(f, 1)", used.weight(f, 1), fresh.weight(f, 1));
        }
        int step = fresh.size() > 100000 ? 997 : 1;
        for (int i = 0; i < fresh.size(); i += i < 600 || i > fresh.size() - 1200 ? 1 : step) {
            Due.is("out(" + i + ")", used.out(i), fresh.out(i));
        }
        Due.is("check()", used.check(), 0);
        Due.is("strays()", used.strays(), 0);
    }

    /** A file that is read leaves nothing of the one before it. */
    private static void afterAnotherFile() {
        CodeLayout x = Feeder.read(wide().file(), 2);
        edge(x, 0, 2, 5);
        x.lay(64, 2097152);
        Due.holds("same()", x.same());
        Due.is("check()", x.check(), 0);
        Prog p = twoRows(3);
        Feeder.feed(x, p.file());
        Due.is("read()", x.read(), 1);
        Due.is("way()", x.way(0, 2), 0);
        Due.is("size()", x.size(), -14);
        Due.is("check()", x.check(), -14);
        Due.is("weight()", x.weight(0, 0), -14);
        Due.is("order()", x.order(0), -1);
        Due.holds("same() of the new file", x.same());
        Due.is("lay()", x.lay(4, 4), 20);
        Due.is("check() of the new file", x.check(), 0);
        Due.is("size() of the new file", x.size(), p.file().length);
        edge(x, 0, 1, 1);
        Due.is("lay()", x.lay(4, 4), 20);
        Due.is("laid(0)", x.laid(0), 2);
    }

    private static void beyondWhatIsLaid() {
        Prog p = twoRows(3);
        CodeLayout x = Feeder.read(p.file(), 1);
        x.lay(4, 4);
        long base = p.textAddress();
        for (long address : new long[] {base - 4, base - 1, base + 1, base + 2, base + 3, base + 19, base + 20, base + 24,
            0, -1, Long.MIN_VALUE, base | 1L << 32, base | Long.MIN_VALUE}) {
            Due.is("moved(" + address + ")", x.moved(address), -14);
        }
        for (int i = 0; i < 5; i++) {
            Due.is("moved()", x.moved(base + 4 * i), base + 4 * i);
        }
        for (int k : new int[] {-1, 3, 4, Integer.MIN_VALUE, Integer.MAX_VALUE}) {
            Due.is("order(" + k + ")", x.order(k), -1);
        }
        for (int i : new int[] {-1, x.size(), x.size() + 1, Integer.MIN_VALUE, Integer.MAX_VALUE}) {
            Due.is("out(" + i + ")", x.out(i), -1);
        }
        for (int what : new int[] {-1, 5, Integer.MIN_VALUE, Integer.MAX_VALUE}) {
            Due.is("laid(" + what + ")", x.laid(what), -14);
            Due.is("weight(0, " + what + ")", x.weight(0, what), -14);
        }
        for (int f : new int[] {-1, 1, Integer.MIN_VALUE, Integer.MAX_VALUE}) {
            Due.is("weight(" + f + ", 0)", x.weight(f, 0), -14);
            Due.is("weight(" + f + ", 1)", x.weight(f, 1), -14);
        }
    }

    /** BL and B from one row to the other, as far apart as rows may be: farther than a B.cond could tell. */
    private static void farthestCalls() {
        for (int hot = 0; hot < 2; hot++) {
            Prog p = new Prog();
            p.function("f").put(Word.NOP).bl("g").put(Word.NOP).b("g");
            p.function("g").put(Word.NOP).bl("f").put(Word.NOP).b("f");
            CodeLayout x = Feeder.read(p.file(), 2);
            edge(x, 2 * hot, 2 * hot + 1, 1);
            x.lay(4, 2097152);
            row("one function is hot", x, 2 * hot, 2 * hot + 1, 2 - 2 * hot, 3 - 2 * hot);
            int[] words = {1, 3, 5, 7};
            for (int i : words) {
                long from = x.moved(p.textAddress() + 4 * i);
                long to = x.moved(p.address(i < 4 ? "g" : "f"));
                Due.holds("far away", Math.abs(to - from) > 4 * 262144);
                int due = (i % 4 == 1 ? Prog.BL : Prog.B) | (int) (to - from >> 2) & 0x3FFFFFF;
                int at = p.textOffset() + (int) (from - p.textAddress());
                int got = x.out(at) | x.out(at + 1) << 8 | x.out(at + 2) << 16 | x.out(at + 3) << 24;
                Due.is("word " + i, got, due);
            }
            Due.is("made long", x.laid(1), 0);
            Due.is("put behind", x.laid(4), 0);
        }
    }
}
