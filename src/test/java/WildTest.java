import java.util.Random;

/** Promises 21 to 31: programs that fault, stop and go astray, set against a slow reading of the document's words. */
public final class WildTest {
    private static final int[] APARTS = {4, 8, 64, 1024, 65536};
    private static final int[][] seen = new int[3][5];

    public static void main(String[] args) {
        int many = args.length > 0 ? Integer.parseInt(args[0]) : 4000;
        int from = args.length > 1 ? Integer.parseInt(args[1]) : 0;
        for (int seed = from; seed < from + many; seed++) {
            int before = Due.wrongs();
            tryOne(seed);
            if (Due.wrongs() != before) {
                System.out.println("seed " + seed);
                break;
            }
        }
        for (int which = 0; which < 3; which++) {
            for (int outcome = 0; outcome < 5; outcome++) {
                boolean possible = outcome != (which == 1 ? 4 : 3);
                Due.holds("outcome " + outcome + " of run " + which + " is seen", !possible || seen[which][outcome] > 20);
            }
        }
        Due.end("WildTest");
    }

    private static void tryOne(int seed) {
        Prog prog = new WildProg(seed).prog;
        Random random = new Random(seed + 5);
        byte[] file = prog.file();
        CodeLayout x = Feeder.read(file, prog.functionNames.size());
        boolean lays = random.nextInt(5) > 0;
        if (lays) {
            tell(x, random);
            Due.holds("lay()", x.lay(4 << random.nextInt(8), APARTS[random.nextInt(APARTS.length)]) > 0);
        }
        byte[] laid = lays ? Feeder.written(x) : file;
        for (int which = 0; which < (lays ? 3 : 2); which++) {
            int visits = random.nextInt(3) == 0 ? random.nextInt(12) : 300;
            NaiveMachine due = new NaiveMachine(x, which == 2 ? laid : file, file, which);
            due.run(visits);
            Due.is("run(" + which + ", " + visits + ")", x.run(which, visits), due.outcome);
            seen[which][due.outcome]++;
            toldAgrees(x, due, which);
            registersAgree(x, due, which);
            memoryAgrees(x, due, which, prog);
        }
    }

    private static void tell(CodeLayout x, Random random) {
        int times = random.nextInt(12);
        for (int i = 0; i < times; i++) {
            int u = random.nextInt(x.count(1));
            long last = x.block(u, 0) + 4 * x.block(u, 1) - 4;
            long next = x.block(u, 4);
            long taken = x.block(u, 5);
            long v = random.nextBoolean() && taken >= 0 ? taken : next >= 0 ? next : random.nextInt(x.count(1));
            x.edge(last, x.block((int) v, 0), 1 + random.nextInt(5));
        }
    }

    private static void toldAgrees(CodeLayout x, NaiveMachine due, int which) {
        Due.is("visits", x.told(which, 0), due.visits.size());
        Due.is("instructions of run " + which, x.told(which, 1), due.done);
        Due.is("flags", x.told(which, 2), due.flags());
        Due.is("calls", x.told(which, 3), due.traces.size());
        Due.is("bytes told", x.told(which, 4), due.texts.size());
        Due.is("outcome", x.told(which, 5), due.outcome);
        for (int k = 0; k < due.visits.size(); k++) {
            Due.is("visit(" + k + ")", x.visit(which, k), due.visits.get(k));
        }
        Due.is("visit() beyond", x.visit(which, due.visits.size()), -1);
        for (int k = 0; k <= due.traces.size(); k++) {
            for (int what = 0; what < 4; what++) {
                boolean kept = k < due.traces.size() && k < 200;
                Due.is("trace(" + k + ")", x.trace(which, k, what), kept ? due.traces.get(k)[what] : 0);
            }
        }
        for (int i = 0; i <= due.texts.size(); i++) {
            Due.is("text(" + i + ")", x.text(which, i), i < due.texts.size() && i < 16384 ? due.texts.get(i) & 255 : -1);
        }
    }

    private static void registersAgree(CodeLayout x, NaiveMachine due, int which) {
        for (int k = 0; k < 32; k++) {
            NaiveMachine.Value v = due.registers[k];
            Due.is("register(" + which + ", " + k + ")", x.register(which, k), v.kind() == 3 ? 0 : v.bits());
            if (which == 1) {
                Due.is("kind(" + k + ")", x.kind(k), v.kind());
                Due.is("newer(" + k + ")", x.newer(k), due.newer(v));
            }
        }
    }

    private static void memoryAgrees(CodeLayout x, NaiveMachine due, int which, Prog prog) {
        for (int i = 0; i < prog.data.size(); i++) {
            bytesAgree(x, due, which, prog.dataAddress(i) - 8, 120);
        }
        bytesAgree(x, due, which, NaiveMachine.STACK - 400, 420);
        bytesAgree(x, due, which, NaiveMachine.STACK - 65536 - 8, 40);
        bytesAgree(x, due, which, prog.textAddress() - 8, 40);
    }

    private static void bytesAgree(CodeLayout x, NaiveMachine due, int which, long from, int many) {
        for (long at = from; at < from + many; at++) {
            Due.is("memory(" + which + ", " + at + ")", x.memory(which, at), due.byteAt(at));
            if (which == 1) {
                int kept = at % 8 == 0 ? due.keeps(at) : -1;
                Due.is("keeps(" + at + ")", x.keeps(at), kept);
                Due.is("newest(" + at + ")", x.newest(at), kept > 0 ? due.newer(due.codes.get(at)) : 0);
            }
        }
    }
}
