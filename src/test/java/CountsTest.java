/** Promises 9 to 11, and the counts that 7 and 8 tell. */
public final class CountsTest {
    private static Prog prog;

    public static void main(String[] args) {
        prog = sample();
        refusals();
        ways();
        callsOfFunctions();
        leaps();
        toItsOwnFirstWord();
        greatCounts();
        edgeKeepsWhatIsLaid();
        Due.end("CountsTest");
    }

    /** Blocks: f 0 BL g, 1 CBZ, 2 BLR, 3 none, 4 BR, 5 B out; g 6 none, 7 B in, 8 RET. */
    private static Prog sample() {
        Prog p = new Prog();
        p.data(6, 32);
        p.function("f").label("b0").put(Word.NOP).bl("g");
        p.label("b1").cbz(1, "b4");
        p.label("b2").put(Word.NOP, Word.blr(3));
        p.label("b3").put(Word.NOP);
        p.label("b4").put(Word.br(3));
        p.label("b5").b("g");
        p.function("g").label("b6").put(Word.NOP);
        p.label("b7").put(Word.NOP).b("b8");
        p.label("b8").put(Word.ret(30));
        p.pointer(0, 0, "b1").pointer(0, 8, "b4").pointer(0, 16, "b7");
        return p;
    }

    private static long first(String label) {
        return prog.address(label);
    }

    private static long last(CodeLayout x, int b) {
        return x.block(b, 0) + 4 * x.block(b, 1) - 4;
    }

    private static int edge(CodeLayout x, int u, int v, int count) {
        return x.edge(last(x, u), x.block(v, 0), count);
    }

    private static void refusals() {
        CodeLayout x = Feeder.read(prog.file(), 2);
        Due.is("blocks", x.count(1), 9);
        Due.is("count 0", x.edge(0, 0, 0), -1);
        Due.is("count -1", x.edge(last(x, 0), first("b1"), -1), -1);
        Due.is("count too great", x.edge(last(x, 0), first("b1"), 1000000001), -1);
        Due.is("from no last word", x.edge(first("b0"), first("b1"), 1), -2);
        Due.is("from no word", x.edge(last(x, 0) + 1, first("b1"), 1), -2);
        Due.is("from before the TEXT", x.edge(first("b0") - 4, 0, 1), -2);
        Due.is("from behind the TEXT", x.edge(first("b8") + 4, 0, 1), -2);
        Due.is("from below 0", x.edge(-4, 0, 1), -2);
        Due.is("to no first word", x.edge(last(x, 0), last(x, 2), 1), -3);
        Due.is("to no word", x.edge(last(x, 0), first("b1") + 2, 1), -3);
        Due.is("to the TEXT's end", x.edge(last(x, 0), first("b8") + 4, 1), -3);
        Due.is("neither way nor call", edge(x, 0, 2, 1), -4);
        Due.is("BL calls no other", edge(x, 0, 0, 1), -4);
        Due.is("CBZ does not call", edge(x, 1, 6, 1), -4);
        Due.is("BLR calls no inner block", edge(x, 2, 7, 1), -4);
        Due.is("B out goes on nowhere", edge(x, 5, 0, 1), -4);
        Due.is("RET goes nowhere", edge(x, 8, 1, 1), -4);
        Due.is("B in goes but to TAKEN", edge(x, 7, 6, 1), -4);
        Due.is("nothing was counted", x.way(0, 1) + x.calls(0, 1) + x.block(6, 7), 0);
        Due.is("the least count", edge(x, 0, 1, 1), 0);
        Due.is("the greatest count", edge(x, 0, 1, 1000000000), 0);
        Due.is("both", x.way(0, 1), 1000000001);
    }

    private static void ways() {
        CodeLayout x = Feeder.read(prog.file(), 2);
        Due.is("BL to NEXT", edge(x, 0, 1, 3), 0);
        Due.is("CBZ to NEXT", edge(x, 1, 2, 4), 0);
        Due.is("CBZ to TAKEN", edge(x, 1, 4, 5), 0);
        Due.is("BLR to NEXT", edge(x, 2, 3, 6), 0);
        Due.is("no END to NEXT", edge(x, 3, 4, 7), 0);
        Due.is("B to TAKEN", edge(x, 7, 8, 8), 0);
        Due.is("again", edge(x, 1, 4, 50), 0);
        Due.is("way(0, 1)", x.way(0, 1), 3);
        Due.is("way(1, 2)", x.way(1, 2), 4);
        Due.is("way(1, 4)", x.way(1, 4), 55);
        Due.is("way(2, 3)", x.way(2, 3), 6);
        Due.is("way(3, 4)", x.way(3, 4), 7);
        Due.is("way(7, 8)", x.way(7, 8), 8);
        Due.is("way(4, 1)", x.way(4, 1), 0);
        Due.is("way(-1, 99)", x.way(-1, 99), 0);
        Due.is("all its ways out", x.block(1, 7), 59);
        Due.is("all ways in", x.block(4, 7), 62);
        Due.is("the way in", x.block(8, 7), 8);
        Due.is("the way out", x.block(7, 7), 8);
        Due.is("none", x.block(5, 7), 0);
    }

    private static void callsOfFunctions() {
        CodeLayout x = Feeder.read(prog.file(), 2);
        Due.is("BL calls", edge(x, 0, 6, 10), 0);
        Due.is("B out calls", edge(x, 5, 6, 20), 0);
        Due.is("BLR calls another", edge(x, 2, 6, 30), 0);
        Due.is("BLR calls its own", edge(x, 2, 0, 40), 0);
        Due.is("calls(0, 1)", x.calls(0, 1), 60);
        Due.is("calls(0, 0)", x.calls(0, 0), 40);
        Due.is("calls(1, 0)", x.calls(1, 0), 0);
        Due.is("calls(5, -1)", x.calls(5, -1), 0);
        Due.is("calls(-1, -1)", x.calls(-1, -1), 0);
        Due.is("a call is no way", x.way(0, 6), 0);
        Due.is("heat of f", x.function(0, 3), 40);
        Due.is("heat of g", x.function(1, 3), 60);
        Due.is("calls in", x.block(6, 7), 60);
        Due.is("calls in of f's first", x.block(0, 7), 40);
        Due.is("calls out", x.block(2, 7), 70);
        edge(x, 6, 7, 5);
        Due.is("ways in and calls are one sum, ways out another", x.block(6, 7), 60);
        edge(x, 2, 3, 69);
        Due.is("the greater of ways and calls", x.block(2, 7), 70);
        edge(x, 2, 3, 2);
        Due.is("now ways", x.block(2, 7), 71);
        Due.is("another block of g", x.block(7, 7), 5);
    }

    private static void leaps() {
        CodeLayout x = Feeder.read(prog.file(), 2);
        Due.is("BR to one that is named", edge(x, 4, 1, 2), 0);
        Due.is("BR to itself, named", edge(x, 4, 4, 3), 0);
        Due.is("BR to one that is not named", edge(x, 4, 2, 1), -4);
        Due.is("BR out of the function", edge(x, 4, 7, 1), -4);
        Due.is("BR calls none", edge(x, 4, 6, 1), -4);
        Due.is("way(4, 1)", x.way(4, 1), 2);
        Due.is("way(4, 4)", x.way(4, 4), 3);
        Due.is("out", x.block(4, 7), 5);
    }

    /** B, B.cond and BR to the first word of their own function are ways; BL and BLR to it are calls. */
    private static void toItsOwnFirstWord() {
        Prog p = new Prog();
        p.data(6, 8);
        p.function("f").put(Word.NOP).bcond(Word.EQ, "f").bl("f").put(Word.blr(1), Word.br(1)).b("f");
        p.function("g").b("g");
        p.pointer(0, 0, "f");
        CodeLayout x = Feeder.read(p.file(), 2);
        Due.is("blocks", x.count(1), 6);
        int[] counts = {1, 20, 300, 4000, 50000};
        for (int b = 0; b < 5; b++) {
            Due.is("from block " + b, edge(x, b, 0, counts[b]), 0);
            boolean call = b == 1 || b == 2;
            Due.is("way(" + b + ", 0)", x.way(b, 0), call ? 0 : counts[b]);
        }
        Due.is("calls(0, 0)", x.calls(0, 0), 320);
        Due.is("heat", x.function(0, 3), 320);
        Due.is("ways and calls to it", x.block(0, 7), 54321);
        Due.is("a block alone to itself", edge(x, 5, 5, 6), 0);
        Due.is("is a way", x.way(5, 5), 6);
        Due.is("and no call", x.calls(1, 1), 0);
        Due.is("of one function to another there is none", edge(x, 5, 0, 1), -4);
        Due.is("B back is none", edge(x, 4, 5, 1), -4);
        x.lay(64, 4);
        Due.is("what goes to the first block never falls to it", x.weight(0, 1), 0);
    }

    private static void greatCounts() {
        CodeLayout x = Feeder.read(prog.file(), 2);
        for (int i = 0; i < 300; i++) {
            edge(x, 0, 6, 1000000000);
        }
        Due.is("a sum of long", x.function(1, 3), 300000000000L);
        Due.is("of calls", x.calls(0, 1), 300000000000L);
    }

    private static void edgeKeepsWhatIsLaid() {
        CodeLayout x = Feeder.read(prog.file(), 2);
        edge(x, 1, 4, 9);
        int bytes = x.lay(4096, 16);
        x.run(2, 10);
        long weight = x.weight(0, 1);
        edge(x, 0, 1, 100);
        Due.is("hot blocks as laid", x.laid(0), 2);
        Due.is("weight as laid", x.weight(0, 1), weight);
        Due.is("weight by number as laid", x.weight(0, 0), 0);
        Due.is("size", x.size(), prog.file().length + (bytes - x.count(2) + 15 & ~15));
        Due.holds("the run stays", x.told(2, 5) >= 0);
    }
}
