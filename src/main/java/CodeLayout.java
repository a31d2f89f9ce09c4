import java.util.Arrays;

/** Reads a linked program, orders its blocks and functions by what was told of their use, and writes and runs it anew. */
public final class CodeLayout {
    private static final int NOTHING = -14;
    private static final int FEED_BYTES = 20;
    private static final int TRAY_MOST = 60000;
    private static final int FED_MOST = 131072;
    private static final int COUNT_MOST = 1000000000;
    private static final int PAGE_MOST = 65536;
    private static final int APART_MOST = 2097152;
    private static final int VISITS_MOST = 4096;
    private static final int RUNS = 3;

    private byte[] tray;
    private int inTray;
    private int fed;
    private int refusedAt;
    private Program program;
    private Counts counts;
    private Order ordering;
    private Layout layout;
    private Layout plain;
    private Rules checker;
    private int strayed;
    private final Machine[] machines;

    public CodeLayout() {
        tray = new byte[1024];
        refusedAt = -1;
        machines = new Machine[RUNS];
    }

    public int feed(int a, int b, int c, int d, int e) {
        if (inTray + FEED_BYTES > TRAY_MOST || fed + FEED_BYTES > FED_MOST) {
            return -1;
        }
        if (inTray + FEED_BYTES > tray.length) {
            tray = Arrays.copyOf(tray, 2 * tray.length);
        }
        trayWord(inTray, a);
        trayWord(inTray + 4, b);
        trayWord(inTray + 8, c);
        trayWord(inTray + 12, d);
        trayWord(inTray + 16, e);
        inTray += FEED_BYTES;
        fed += FEED_BYTES;
        return inTray;
    }

    private void trayWord(int from, int word) {
        for (int i = 0; i < 4; i++) {
            if (from + i < tray.length) {
                tray[from + i] = (byte) (word >>> 24 - 8 * i);
            }
        }
    }

    public boolean end(int n) {
        if (n < 0 || n > inTray) {
            return false;
        }
        inTray = n;
        return true;
    }

    public int read() {
        Image image = new Image(tray, inTray);
        inTray = 0;
        Rules rules = new Rules(image);
        int broken = rules.judge();
        if (broken != 0) {
            refusedAt = rules.at;
            return -broken;
        }
        Program found = new Program(image, rules);
        broken = found.takeApart();
        if (broken != 0) {
            refusedAt = found.at;
            return -broken;
        }
        refusedAt = -1;
        program = found;
        counts = new Counts(found);
        ordering = null;
        layout = null;
        plain = null;
        forgetRuns();
        return found.functions;
    }

    private void forgetRuns() {
        for (int i = 0; i < RUNS; i++) {
            if (machines[i] != null) {
                machines[i].forget();
            }
        }
    }

    public int place() {
        return refusedAt;
    }

    public int count(int what) {
        if (what < 0 || what > 4) {
            return NOTHING;
        }
        if (program == null) {
            return 0;
        }
        switch (what) {
            case 0:
                return program.functions;
            case 1:
                return program.blocks;
            case 2:
                return program.textBytes();
            case 3:
                return program.image.length;
            default:
                return program.fixes.used;
        }
    }

    public long function(int f, int what) {
        if (program == null || counts == null || !program.hasFunction(f) || what < 0 || what > 3) {
            return NOTHING;
        }
        switch (what) {
            case 0:
                return program.base + 4L * program.functionFrom(f);
            case 1:
                return 4L * program.wordsOfFunction(f);
            case 2:
                return program.firstBlock(f);
            default:
                return counts.heatOf(f);
        }
    }

    public long block(int b, int what) {
        if (program == null || counts == null || !program.hasBlock(b) || what < 0 || what > 7) {
            return NOTHING;
        }
        switch (what) {
            case 0:
                return program.addressOf(b);
            case 1:
                return program.wordsOf(b);
            case 2:
                return program.ownerOf(b);
            case 3:
                return program.endOf(b);
            case 4:
                return program.nextOf(b);
            case 5:
                return program.takenOf(b);
            case 6:
                return program.isNamed(b) ? 1 : 0;
            default:
                return counts.timesOf(b);
        }
    }

    public int edge(long from, long to, int count) {
        if (program == null || counts == null) {
            return NOTHING;
        }
        if (count < 1 || count > COUNT_MOST) {
            return -1;
        }
        int u = program.blockWithLast(from);
        if (u < 0) {
            return -2;
        }
        int v = program.blockWithFirst(to);
        if (v < 0) {
            return -3;
        }
        if (program.succeeds(u, v)) {
            counts.add(u, v, false, count);
            return 0;
        }
        if (program.mayCall(u, v)) {
            counts.add(u, v, true, count);
            return 0;
        }
        return -4;
    }

    public long way(int u, int v) {
        return counts == null ? 0 : counts.timesOfWay(u, v);
    }

    public long calls(int f, int g) {
        return counts == null ? 0 : counts.timesOfCalls(f, g);
    }

    public int lay(int page, int apart) {
        if (program == null || counts == null) {
            return NOTHING;
        }
        if (page < 4 || page > PAGE_MOST || apart < 4 || apart > APART_MOST || (apart & apart - 1) != 0) {
            return -1;
        }
        if (ordering == null || layout == null) {
            ordering = new Order(program, counts);
            layout = new Layout(program);
        }
        ordering.arrange(page);
        layout.write(ordering.row, ordering.hotBlocks, apart);
        strayed += layout.strayed;
        forgetRuns();
        return layout.newBytes();
    }

    public int order(int k) {
        return layout != null ? layout.blockInRow(k) : -1;
    }

    public int laid(int what) {
        if (layout == null || what < 0 || what > 4) {
            return NOTHING;
        }
        switch (what) {
            case 0:
                return layout.hotBlocks;
            case 1:
                return layout.madeLong;
            case 2:
                return layout.leftOut;
            case 3:
                return layout.turned;
            default:
                return layout.putBehind;
        }
    }

    public long weight(int f, int what) {
        if (program == null || ordering == null || !program.hasFunction(f) || what < 0 || what > 1) {
            return NOTHING;
        }
        return what == 0 ? ordering.weightByNumber(f) : ordering.weightAsLaid(f);
    }

    public long moved(long address) {
        if (program == null || layout == null || program.wordAtAddress(address) < 0) {
            return NOTHING;
        }
        return layout.newAddress(address);
    }

    public int size() {
        return layout != null ? layout.image.length : NOTHING;
    }

    public int out(int i) {
        if (layout == null || i < 0 || i >= layout.image.length) {
            return -1;
        }
        return layout.image.byteAt(i);
    }

    public int check() {
        if (layout == null) {
            return NOTHING;
        }
        if (checker == null || checker.image != layout.image) {
            checker = new Rules(layout.image);
        }
        return checker.judge();
    }

    public boolean same() {
        if (program == null) {
            return false;
        }
        if (plain == null) {
            plain = new Layout(program);
        }
        plain.writeByNumber();
        return plain.image.hasBytesOf(program.image);
    }

    public int run(int which, int visits) {
        if (program == null || which == 2 && layout == null) {
            return NOTHING;
        }
        if (which < 0 || which >= RUNS || visits < 0 || visits > VISITS_MOST) {
            return -1;
        }
        if (machines[which] == null) {
            machines[which] = new Machine(which == 1);
        }
        int newBytes = layout != null ? layout.newBytes() : program.textBytes();
        if (which == 2 && layout != null) {
            machines[which].begin(program, layout.image, layout.newAddress(program.entry), newBytes);
        } else {
            machines[which].begin(program, program.image, program.entry, newBytes);
        }
        return machines[which].go(visits);
    }

    private Machine latest(int which) {
        if (which < 0 || which >= RUNS || machines[which] == null || !machines[which].hasRun) {
            return null;
        }
        return machines[which];
    }

    public int told(int which, int what) {
        Machine machine = latest(which);
        if (machine == null || what < 0 || what > 5) {
            return NOTHING;
        }
        switch (what) {
            case 0:
                return machine.visits;
            case 1:
                return machine.done;
            case 2:
                return machine.flags;
            case 3:
                return machine.callsDone;
            case 4:
                return machine.bytesTold;
            default:
                return machine.outcome;
        }
    }

    public long register(int which, int k) {
        Machine machine = latest(which);
        return machine == null ? 0 : machine.valueOf(k);
    }

    public int kind(int k) {
        Machine machine = latest(1);
        return machine == null ? -1 : machine.codeOf(k);
    }

    public long newer(int k) {
        Machine machine = latest(1);
        if (machine == null) {
            return 0;
        }
        int code = machine.codeOf(k);
        return code == Machine.NUMBER ? machine.valueOf(k) : newOfCode(code, machine.valueOf(k));
    }

    private long newOfCode(int code, long old) {
        if (code != Machine.START && code != Machine.RETURN) {
            return 0;
        }
        if (layout == null) {
            return old;
        }
        // What is behind a call moves with the call, not with the block that stood there.
        return code == Machine.START ? layout.newAddress(old) : layout.newAddress(old - 4) + 4;
    }

    public int visit(int which, int k) {
        Machine machine = latest(which);
        return machine == null ? -1 : machine.blockVisited(k);
    }

    public int memory(int which, long address) {
        Machine machine = latest(which);
        return machine == null ? -1 : machine.memory.byteLeft(address);
    }

    public int keeps(long address) {
        Machine machine = latest(1);
        if (machine == null || (address & 7) != 0) {
            return -1;
        }
        return machine.memory.codeKept(address);
    }

    public long newest(long address) {
        Machine machine = latest(1);
        int code = keeps(address);
        if (machine == null || code < 0) {
            return 0;
        }
        return newOfCode(code, machine.memory.load(machine.memory.spotOf(address, 8), 8));
    }

    public long trace(int which, int k, int what) {
        Machine machine = latest(which);
        return machine == null ? 0 : machine.traced(k, what);
    }

    public int text(int which, int i) {
        Machine machine = latest(which);
        return machine == null ? -1 : machine.byteTold(i);
    }

    public int strays() {
        return strayed;
    }

    /** A file's bytes. The TEXT's words stand apart once they are known, so that a gap in it takes no room. */
    private static final class Image {
        static final int NO_MARK = -1;
        static final int BEHIND_CALL = -2;
        static final int IN_GAP = -1;
        static final int BEYOND = -2;

        final byte[] bytes;
        int length;
        int[] words;
        int[] marks;
        int textPlace;
        int hotWords;
        int gapWords;
        int allWords;
        int tailPlace;
        int shift;

        Image(byte[] from, int n) {
            bytes = new byte[Math.max(0, Math.min(n, from.length))];
            System.arraycopy(from, 0, bytes, 0, bytes.length);
            length = bytes.length;
            words = new int[0];
            marks = words;
            textPlace = Integer.MAX_VALUE;
        }

        /** From now on these words are the TEXT; marks tell which block begins at which of them. */
        void setText(int[] newWords, int[] newMarks, int at) {
            words = newWords;
            marks = newMarks;
            textPlace = at;
        }

        /** How the TEXT's words lie, and how far what stands behind the TEXT has moved. */
        void setGap(int hot, int gap, int all, int oldBytes) {
            hotWords = hot;
            gapWords = gap;
            allWords = all;
            shift = 4 * all - oldBytes + 15 & ~15;
            tailPlace = textPlace + oldBytes + shift;
            length = bytes.length + shift;
        }

        int byteAt(int at) {
            if (at < 0 || at >= length) {
                return 0;
            }
            int distance = at - textPlace;
            if (distance >= 0 && distance < 4 * allWords) {
                int i = distance >> 2;
                int gone = i < hotWords ? 0 : gapWords;
                boolean inGap = i >= hotWords && i < hotWords + gapWords;
                return inGap || i - gone >= words.length ? 0 : words[i - gone] >>> 8 * (distance & 3) & 255;
            }
            if (distance >= 0 && at < tailPlace) {
                return 0;
            }
            int from = distance >= 0 ? at - shift : at;
            return from >= 0 && from < bytes.length ? bytes[from] & 255 : 0;
        }

        int wordOf(int i) {
            return i >= 0 && i < words.length ? words[i] : 0;
        }

        int markOf(int i) {
            return i >= 0 && i < marks.length ? marks[i] : NO_MARK;
        }

        /** Which of the words stands so many bytes behind the TEXT's first one. */
        int indexAt(long distance) {
            if (distance < 0 || distance >= 4L * allWords || (distance & 3) != 0) {
                return BEYOND;
            }
            int i = (int) (distance >> 2);
            if (i < hotWords) {
                return i;
            }
            return i < hotWords + gapWords ? IN_GAP : i - gapWords;
        }

        int halfAt(int at) {
            return byteAt(at) | byteAt(at + 1) << 8;
        }

        int wordAt(int at) {
            return byteAt(at) | byteAt(at + 1) << 8 | byteAt(at + 2) << 16 | byteAt(at + 3) << 24;
        }

        long longAt(int at) {
            long value = 0;
            for (int i = 7; i >= 0; i--) {
                value = value << 8 | byteAt(at + i);
            }
            return value;
        }

        boolean isZero(int from, int n) {
            for (int i = 0; i < n; i++) {
                if (byteAt(from + i) != 0) {
                    return false;
                }
            }
            return true;
        }

        boolean hasBytesOf(Image other) {
            if (length != other.length) {
                return false;
            }
            for (int i = 0; i < length; i++) {
                if (byteAt(i) != other.byteAt(i)) {
                    return false;
                }
            }
            return true;
        }

        void copyBytesOf(Image other) {
            System.arraycopy(other.bytes, 0, bytes, 0, Math.min(bytes.length, other.bytes.length));
        }

        /** Sets bytes by the place that they had before anything moved. */
        void setBytes(int oldPlace, int n, long value) {
            for (int i = 0; i < n && i < 8; i++) {
                if (oldPlace >= 0 && oldPlace + i < bytes.length) {
                    bytes[oldPlace + i] = (byte) (value >>> 8 * i);
                }
            }
        }

        void setLong(int oldPlace, long value) {
            setBytes(oldPlace, 8, value);
        }
    }

    /** The rules 1 to 6 of a file, and what its heads tell. */
    private static final class Rules {
        static final int TEXT = 1;
        static final int DATA = 2;
        static final int NOTE = 3;
        static final int SYMBOLS = 4;
        static final int TEXTS = 5;
        static final int FIXES = 6;
        static final int ENTRY_BYTES = 24;
        static final int WRITES = 2;
        private static final int FILE_HEAD = 64;
        private static final int SEGMENT_HEAD = 56;
        private static final int SECTION_HEAD = 64;
        private static final int SEGMENT_MOST = 4194304;
        private static final long ADDRESS_LEAST = 65536;
        private static final long ADDRESS_MOST = 134217728;
        private static final int ABSOLUTE = 65521;
        private static final int[] BEGINNING = {127, 69, 76, 70, 2, 1, 1, 0, 0, 0, 0, 0, 0, 0, 0, 0};

        final Image image;
        int at;
        int segments;
        int sections;
        int headsAt;
        final int[] segmentFlags;
        final int[] segmentOffset;
        final long[] segmentAddress;
        final int[] segmentSize;
        final int[] role;
        final long[] address;
        final int[] offset;
        final int[] bytes;
        int textSection;
        int symbolSection;
        long entry;
        private long[] seen;

        Rules(Image file) {
            image = file;
            at = -1;
            segmentFlags = new int[4];
            segmentOffset = new int[4];
            segmentAddress = new long[4];
            segmentSize = new int[4];
            role = new int[16];
            address = new long[16];
            offset = new int[16];
            bytes = new int[16];
            seen = new long[16];
        }

        /** The first rule that is broken, 0 if none is. */
        int judge() {
            if (!fileHeadHolds()) {
                return 1;
            }
            if (!segmentsHold()) {
                return 2;
            }
            if (!sectionsHold()) {
                return 3;
            }
            if (!symbolsHold()) {
                return 4;
            }
            if (!fixesHold()) {
                return 5;
            }
            return must(isInText(entry), ENTRY_BYTES) ? 0 : 6;
        }

        private boolean must(boolean holds, int where) {
            if (!holds) {
                at = where;
            }
            return holds;
        }

        private boolean fileHeadHolds() {
            if (!must(image.length >= FILE_HEAD, image.length) || !must(beginsRightly(), 0)) {
                return false;
            }
            entry = image.longAt(ENTRY_BYTES);
            segments = image.halfAt(56);
            sections = image.halfAt(60);
            int names = image.halfAt(62);
            return must(image.halfAt(16) == 2, 16)
                && must(image.halfAt(18) == 183, 18)
                && must(image.wordAt(20) == 1, 20)
                && must(image.longAt(32) == FILE_HEAD, 32)
                && must(image.wordAt(48) == 0, 48)
                && must(image.halfAt(52) == FILE_HEAD, 52)
                && must(image.halfAt(54) == SEGMENT_HEAD, 54)
                && must(segments >= 1 && segments <= 4, 56)
                && must(image.halfAt(58) == SECTION_HEAD, 58)
                && must(sections >= 5 && sections <= 16, 60)
                && must(names >= 1 && names < sections, 62)
                && must(sectionHeadsFit(), 40);
        }

        private boolean beginsRightly() {
            for (int i = 0; i < BEGINNING.length; i++) {
                if (image.byteAt(i) != BEGINNING[i]) {
                    return false;
                }
            }
            return true;
        }

        private boolean sectionHeadsFit() {
            headsAt = image.length - SECTION_HEAD * sections;
            return headsAt >= 0 && image.longAt(40) == headsAt && (headsAt & 7) == 0;
        }

        private int firstFree() {
            return FILE_HEAD + SEGMENT_HEAD * segments;
        }

        private boolean segmentsHold() {
            long endOffset = firstFree();
            long endAddress = ADDRESS_LEAST;
            for (int i = 0; i < segments && i < segmentFlags.length; i++) {
                if (!segmentHolds(i, endOffset, endAddress)) {
                    return false;
                }
                endOffset = segmentOffset[i] + segmentSize[i];
                endAddress = segmentAddress[i] + segmentSize[i];
            }
            return true;
        }

        int segmentHead(int i) {
            return FILE_HEAD + SEGMENT_HEAD * i;
        }

        private boolean segmentHolds(int i, long endOffset, long endAddress) {
            int head = segmentHead(i);
            int flags = image.wordAt(head + 4);
            long from = image.longAt(head + 8);
            long first = image.longAt(head + 16);
            long most = image.longAt(head + 32);
            boolean flagsFit = i == segments - 1 ? flags == 5 : flags == 4 || flags == 6;
            boolean offsetFits = from < 0 || from >= endOffset;
            boolean addressFits = first >= endAddress && first <= ADDRESS_MOST && (first - from & 15) == 0;
            boolean sizeFits = most >= 1 && most <= SEGMENT_MOST && from >= 0 && from <= headsAt - most;
            if (!(must(image.wordAt(head) == 1, head)
                && must(flagsFit, head + 4)
                && must(offsetFits, head + 8)
                && must(addressFits, head + 16)
                && must(image.longAt(head + 24) == first, head + 24)
                && must(sizeFits, head + 32)
                && must(image.longAt(head + 40) == most, head + 40)
                && must(image.longAt(head + 48) == 16, head + 48))) {
                return false;
            }
            segmentFlags[i] = flags;
            segmentOffset[i] = (int) from;
            segmentAddress[i] = first;
            segmentSize[i] = (int) most;
            return true;
        }

        int sectionHead(int s) {
            return headsAt + SECTION_HEAD * s;
        }

        private boolean sectionsHold() {
            if (!must(image.isZero(headsAt, SECTION_HEAD), headsAt)) {
                return false;
            }
            role[0] = 0;
            bytes[0] = 0;
            for (int s = 1; s < sections && s < role.length; s++) {
                if (!sectionHolds(s)) {
                    return false;
                }
            }
            return rolesHold() && textHolds() && dataHold() && offsetsHold() && bytesHold()
                && linksHold() && infosHold() && namesHold();
        }

        private boolean sectionHolds(int s) {
            int head = sectionHead(s);
            role[s] = roleOf(image.wordAt(head + 4), image.longAt(head + 8));
            long from = image.longAt(head + 24);
            long most = image.longAt(head + 32);
            int type = image.wordAt(head + 4);
            boolean sizeFits = from >= 0 && from <= headsAt && most >= 0 && most <= headsAt - from;
            if (!(must(type >= 1 && type <= 4, head + 4)
                && must(role[s] != 0, head + 8)
                && must(from < 0 || from >= firstFree(), head + 24)
                && must(sizeFits, head + 32))) {
                return false;
            }
            address[s] = image.longAt(head + 16);
            offset[s] = (int) from;
            bytes[s] = (int) most;
            return asksHold(s, head);
        }

        private static int roleOf(int type, long flags) {
            if (type == 1) {
                return flags == 6 ? TEXT : flags == 2 || flags == 3 ? DATA : flags == 0 ? NOTE : 0;
            }
            if (flags != 0) {
                return 0;
            }
            return type == 2 ? SYMBOLS : type == 3 ? TEXTS : type == 4 ? FIXES : 0;
        }

        private boolean asksHold(int s, int head) {
            switch (role[s]) {
                case TEXT:
                    return must((address[s] & 3) == 0, head + 16) && must((bytes[s] & 3) == 0, head + 32);
                case SYMBOLS:
                    return must(bytes[s] > 0 && bytes[s] % ENTRY_BYTES == 0, head + 32)
                        && must(image.longAt(head + 56) == ENTRY_BYTES, head + 56);
                case FIXES:
                    return must(bytes[s] % ENTRY_BYTES == 0, head + 32)
                        && must(image.longAt(head + 56) == ENTRY_BYTES, head + 56);
                case TEXTS:
                    int last = offset[s] + bytes[s] - 1;
                    return must(bytes[s] > 0, head + 32)
                        && must(image.byteAt(offset[s]) == 0, offset[s])
                        && must(image.byteAt(last) == 0, last);
                default:
                    return true;
            }
        }

        private boolean rolesHold() {
            int texts = 0;
            int symbols = 0;
            for (int s = 1; s < sections && s < role.length; s++) {
                if (role[s] == TEXT) {
                    texts++;
                    textSection = s;
                } else if (role[s] == SYMBOLS) {
                    symbols++;
                    symbolSection = s;
                }
            }
            return must(texts == 1 && symbols == 1, 60);
        }

        private boolean textHolds() {
            int last = segments - 1;
            int head = sectionHead(textSection);
            return must(address[textSection] == segmentAddress[last], head + 16)
                && must(offset[textSection] == segmentOffset[last], head + 24)
                && must(bytes[textSection] == segmentSize[last], head + 32);
        }

        private boolean dataHold() {
            for (int s = 1; s < sections && s < role.length; s++) {
                if (role[s] == DATA && !must(isInSegment(s), sectionHead(s) + 16)) {
                    return false;
                }
            }
            return true;
        }

        private boolean isInSegment(int s) {
            boolean writes = image.longAt(sectionHead(s) + 8) == 3;
            for (int i = 0; i < segments && i < segmentFlags.length; i++) {
                boolean flagsFit = segmentFlags[i] == 6 || segmentFlags[i] == 4 && !writes;
                long distance = address[s] - segmentAddress[i];
                if (flagsFit && distance >= 0 && distance <= segmentSize[i] - bytes[s]
                    && distance == offset[s] - segmentOffset[i]) {
                    return true;
                }
            }
            return false;
        }

        int textEnd() {
            return offset[textSection] + bytes[textSection];
        }

        private boolean offsetsHold() {
            for (int s = 1; s < sections && s < role.length; s++) {
                boolean free = role[s] == TEXT || role[s] == DATA;
                if (!must(free || offset[s] >= textEnd(), sectionHead(s) + 24)) {
                    return false;
                }
            }
            return true;
        }

        private boolean bytesHold() {
            for (int s = 2; s < sections && s < role.length; s++) {
                for (int r = 1; r < s; r++) {
                    boolean apart = bytes[s] == 0 || bytes[r] == 0
                        || offset[s] >= offset[r] + bytes[r] || offset[r] >= offset[s] + bytes[s];
                    if (!must(apart, sectionHead(s) + 24)) {
                        return false;
                    }
                }
            }
            return true;
        }

        private int roleAt(int s) {
            return s >= 1 && s < sections && s < role.length ? role[s] : 0;
        }

        private int linkOf(int s) {
            return image.wordAt(sectionHead(s) + 40);
        }

        int infoOf(int s) {
            return image.wordAt(sectionHead(s) + 44);
        }

        private boolean linksHold() {
            for (int s = 1; s < sections && s < role.length; s++) {
                boolean holds = role[s] == SYMBOLS ? roleAt(linkOf(s)) == TEXTS
                    : role[s] != FIXES || linkOf(s) == symbolSection;
                if (!must(holds, sectionHead(s) + 40)) {
                    return false;
                }
            }
            return true;
        }

        private boolean infosHold() {
            for (int s = 1; s < sections && s < role.length; s++) {
                int info = role[s] == FIXES ? infoOf(s) : 0;
                boolean holds = role[s] != FIXES || roleAt(info) == TEXT || roleAt(info) == DATA;
                for (int r = 1; r < s; r++) {
                    holds = holds && !(role[s] == FIXES && role[r] == FIXES && infoOf(r) == info);
                }
                if (!must(holds, sectionHead(s) + 44)) {
                    return false;
                }
            }
            return true;
        }

        private boolean namesHold() {
            int names = image.halfAt(62);
            if (!must(roleAt(names) == TEXTS, 62)) {
                return false;
            }
            for (int s = 0; s < sections && s < role.length; s++) {
                if (!must(isPlaceIn(image.wordAt(sectionHead(s)), names), sectionHead(s))) {
                    return false;
                }
            }
            return true;
        }

        private boolean isPlaceIn(int where, int s) {
            return where >= 0 && where < bytes[s];
        }

        int symbolCount() {
            return bytes[symbolSection] / ENTRY_BYTES;
        }

        int symbolAt(int k) {
            return offset[symbolSection] + ENTRY_BYTES * k;
        }

        private boolean symbolsHold() {
            if (!must(image.isZero(symbolAt(0), ENTRY_BYTES), symbolAt(0))) {
                return false;
            }
            int names = linkOf(symbolSection);
            int most = symbolCount();
            for (int k = 1; k < most; k++) {
                int s = symbolAt(k);
                int section = image.halfAt(s + 6);
                int sort = roleAt(section);
                boolean sectionFits = section == 0 || section == ABSOLUTE || sort == TEXT || sort == DATA;
                if (!(must(isPlaceIn(image.wordAt(s), names), s)
                    && must(sectionFits, s + 6)
                    && must(sort != TEXT || isTextValue(image.longAt(s + 8)), s + 8))) {
                    return false;
                }
            }
            return true;
        }

        private boolean isTextValue(long value) {
            return isInText(value) || value == address[textSection] + bytes[textSection];
        }

        private boolean isInText(long value) {
            long distance = value - address[textSection];
            return (value & 3) == 0 && distance >= 0 && distance < bytes[textSection];
        }

        private boolean fixesHold() {
            for (int s = 1; s < sections && s < role.length; s++) {
                if (role[s] == FIXES && !sectionFixesHold(s)) {
                    return false;
                }
            }
            return true;
        }

        private boolean sectionFixesHold(int s) {
            int info = infoOf(s);
            int most = bytes[info] / 256 + 1;
            if (seen.length < most) {
                seen = new long[most];
            }
            Arrays.fill(seen, 0, most, 0L);
            int fixes = bytes[s] / ENTRY_BYTES;
            for (int k = 0; k < fixes; k++) {
                if (!fixHolds(offset[s] + ENTRY_BYTES * k, info)) {
                    return false;
                }
            }
            return true;
        }

        private boolean fixHolds(int fix, int info) {
            int type = image.wordAt(fix + 8);
            boolean ofText = role[info] == TEXT;
            boolean typeFits = type == 0 || (ofText ? isTextFix(type) : type == Fixes.LONG);
            if (!must(typeFits, fix + 8)) {
                return false;
            }
            long where = image.longAt(fix);
            int symbol = image.wordAt(fix + 12);
            if (type == 0) {
                return must(where == 0, fix) && must(symbol == 0, fix + 12)
                    && must(image.longAt(fix + 16) == 0, fix + 16);
            }
            int unit = ofText ? 4 : 8;
            long distance = where - address[info];
            boolean fits = (where & unit - 1) == 0 && distance >= 0 && distance <= bytes[info] - unit;
            return must(fits && isNew((int) (distance >> 2)), fix)
                && must(symbol >= 0 && symbol < symbolCount(), fix + 12);
        }

        private static boolean isTextFix(int type) {
            return type == Fixes.PAGE || type == Fixes.ADD || type == Fixes.LOAD_BYTE || type == Fixes.LOAD_WORD
                || type == Fixes.LOAD_LONG || type == Fixes.GO || type == Fixes.CALL;
        }

        private boolean isNew(int index) {
            int cell = index >> 6;
            if (cell < 0 || cell >= seen.length) {
                return false;
            }
            long bit = 1L << (index & 63);
            boolean fresh = (seen[cell] & bit) == 0;
            seen[cell] |= bit;
            return fresh;
        }
    }

    /** What the bits of a word say. */
    private static final class Code {
        static final int NONE = 0;
        static final int ADD_NUMBER = 1;
        static final int ADD = 2;
        static final int AND = 3;
        static final int MOVE = 4;
        static final int ADRP = 5;
        static final int MADD = 6;
        static final int TWO = 7;
        static final int CHOOSE = 8;
        static final int LOAD_NUMBER = 9;
        static final int LOAD_REGISTER = 10;
        static final int PAIR = 11;
        static final int B = 12;
        static final int BL = 13;
        static final int B_COND = 14;
        static final int CBZ = 15;
        static final int TBZ = 16;
        static final int BR = 17;
        static final int BLR = 18;
        static final int RET = 19;
        static final int CALL = 20;
        static final int REST = 21;
        static final int PLAIN_B = 0x14000000;
        private static final int LAST_CONDITION = 13;
        private static final int LONG_BIT = 0x80000000;

        static int kindOf(int w) {
            if ((w & 0x1F800000) == 0x11000000) {
                return ADD_NUMBER;
            }
            if ((w & 0x1F200000) == 0x0B000000) {
                return (w >>> 22 & 3) != 3 && amountFits(w) ? ADD : NONE;
            }
            if ((w & 0x1F000000) == 0x0A000000) {
                return amountFits(w) ? AND : NONE;
            }
            if ((w & 0x1F800000) == 0x12800000) {
                return moveFits(w) ? MOVE : NONE;
            }
            if ((w & 0x9F000000) == 0x90000000) {
                return ADRP;
            }
            if ((w & 0x7FE00000) == 0x1B000000) {
                return MADD;
            }
            if ((w & 0x7FE00000) == 0x1AC00000) {
                return twoFits(w >>> 10 & 63) ? TWO : NONE;
            }
            if ((w & 0x7FE00800) == 0x1A800000) {
                return (w >>> 12 & 15) <= LAST_CONDITION ? CHOOSE : NONE;
            }
            int memoryKind = memoryKindOf(w);
            return memoryKind != NONE ? memoryKind : goingKindOf(w);
        }

        private static boolean amountFits(int w) {
            return (w & LONG_BIT) != 0 || (w >>> 10 & 63) < 32;
        }

        private static boolean moveFits(int w) {
            return (w >>> 29 & 3) != 1 && ((w & LONG_BIT) != 0 || (w >>> 21 & 3) < 2);
        }

        private static boolean twoFits(int what) {
            return what == 2 || what == 3 || what == 8 || what == 9 || what == 10;
        }

        static int memoryKindOf(int w) {
            if ((w & 0x3F000000) == 0x39000000) {
                return loadFits(w) ? LOAD_NUMBER : NONE;
            }
            if ((w & 0x3F20EC00) == 0x38206800) {
                return loadFits(w) ? LOAD_REGISTER : NONE;
            }
            if ((w & 0xFE000000) == 0xA8000000) {
                return pairFits(w) ? PAIR : NONE;
            }
            return NONE;
        }

        private static boolean loadFits(int w) {
            int width = w >>> 30;
            int how = w >>> 22 & 3;
            return width != 1 && (how < 2 || how == 2 && width == 2);
        }

        private static boolean pairFits(int w) {
            int how = w >>> 23 & 3;
            int d = w & 31;
            int n = w >>> 5 & 31;
            int a = w >>> 10 & 31;
            boolean changes = how == 1 || how == 3;
            boolean loads = (w & 1 << 22) != 0;
            return how != 0 && !(changes && n != 31 && (n == d || n == a)) && !(loads && d == a);
        }

        static int goingKindOf(int w) {
            if ((w & 0xFC000000) == PLAIN_B) {
                return B;
            }
            if ((w & 0xFC000000) == 0x94000000) {
                return BL;
            }
            if ((w & 0xFF000010) == 0x54000000) {
                return (w & 15) <= LAST_CONDITION ? B_COND : NONE;
            }
            if ((w & 0x7E000000) == 0x34000000) {
                return CBZ;
            }
            if ((w & 0x7E000000) == 0x36000000) {
                return TBZ;
            }
            int fixed = w & 0xFFFFFC1F;
            if (fixed == 0xD61F0000) {
                return BR;
            }
            if (fixed == 0xD63F0000) {
                return BLR;
            }
            if (fixed == 0xD65F0000) {
                return RET;
            }
            if ((w & 0xFFE0001F) == 0xD4000001) {
                return CALL;
            }
            return w == 0xD503201F ? REST : NONE;
        }

        static boolean isConditional(int kindOf) {
            return kindOf == B_COND || kindOf == CBZ || kindOf == TBZ;
        }

        static boolean goesAway(int kindOf) {
            return kindOf >= B && kindOf <= RET;
        }

        /** How many words from here a word goes. */
        static int distanceOf(int w, int kindOf) {
            if (kindOf == B || kindOf == BL) {
                return w << 6 >> 6;
            }
            return kindOf == TBZ ? w << 13 >> 18 : w << 8 >> 13;
        }

        static boolean reaches(int kindOf, long distance) {
            int bits = kindOf == B || kindOf == BL ? 26 : kindOf == TBZ ? 14 : 19;
            long half = 1L << bits - 1;
            return distance >= -half && distance < half;
        }

        static int withDistance(int w, int kindOf, int distance) {
            if (kindOf == B || kindOf == BL) {
                return w & 0xFC000000 | distance & 0x3FFFFFF;
            }
            int mask = kindOf == TBZ ? 0x3FFF : 0x7FFFF;
            return w & ~(mask << 5) | (distance & mask) << 5;
        }

        static int turnedOver(int w, int kindOf) {
            return kindOf == B_COND ? w ^ 1 : w ^ 1 << 24;
        }

        /** How many pages from its own an ADRP tells. */
        static int pagesOf(int w) {
            return w << 8 >> 13 << 2 | w >>> 29 & 3;
        }

        static int withPages(int w, int pages) {
            return w & 0x9F00001F | (pages & 3) << 29 | (pages >> 2 & 0x7FFFF) << 5;
        }

        static boolean pagesFit(long pages) {
            return pages >= -(1L << 20) && pages < 1L << 20;
        }

        static long madePage(int w, long address) {
            return (address & ~0xFFFL) + ((long) pagesOf(w) << 12);
        }

        static int numberOf(int w) {
            return w >>> 10 & 0xFFF;
        }

        static int withNumber(int w, int number) {
            return w & ~(0xFFF << 10) | (number & 0xFFF) << 10;
        }

        /** Whether a is below b, both without sign. */
        static boolean below(long a, long b) {
            return a + Long.MIN_VALUE < b + Long.MIN_VALUE;
        }

        static long shifted(long value, int how, int amount, boolean isLong) {
            if (isLong) {
                switch (how) {
                    case 0:
                        return value << amount;
                    case 1:
                        return value >>> amount;
                    case 2:
                        return value >> amount;
                    default:
                        return value >>> amount | value << 64 - amount;
                }
            }
            int low = (int) value;
            switch (how) {
                case 0:
                    return low << amount;
                case 1:
                    return low >>> amount;
                case 2:
                    return low >> amount;
                default:
                    return low >>> amount | low << 32 - amount;
            }
        }

        static long dividedUnsigned(long n, long m) {
            if (m == 0) {
                return 0;
            }
            if (m < 0) {
                return below(n, m) ? 0 : 1;
            }
            // Half of n has no sign; what the halving lost is at most one m.
            long half = (n >>> 1) / m << 1;
            return below(n - half * m, m) ? half : half + 1;
        }

        static long dividedSigned(long n, long m) {
            return m == 0 ? 0 : m == -1 ? -n : n / m;
        }

        static boolean holds(int condition, int flags) {
            boolean negative = (flags & 8) != 0;
            boolean zero = (flags & 4) != 0;
            boolean carry = (flags & 2) != 0;
            boolean over = (flags & 1) != 0;
            boolean plain;
            switch (condition >> 1) {
                case 0:
                    plain = zero;
                    break;
                case 1:
                    plain = carry;
                    break;
                case 2:
                    plain = negative;
                    break;
                case 3:
                    plain = over;
                    break;
                case 4:
                    plain = carry && !zero;
                    break;
                case 5:
                    plain = negative == over;
                    break;
                default:
                    plain = !zero && negative == over;
                    break;
            }
            return plain == ((condition & 1) == 0);
        }
    }

    /** All fixes but those of TYPE 0, by sections, then as they stand. */
    private static final class Fixes {
        static final int LONG = 257;
        static final int PAGE = 275;
        static final int ADD = 277;
        static final int LOAD_BYTE = 278;
        static final int GO = 282;
        static final int CALL = 283;
        static final int LOAD_WORD = 285;
        static final int LOAD_LONG = 286;

        int used;
        final int[] entryPlace;
        final int[] type;
        final long[] target;
        final int[] spot;

        Fixes(Image image, Rules rules) {
            int most = 0;
            for (int s = 1; s < rules.sections && s < rules.role.length; s++) {
                most += rules.role[s] == Rules.FIXES ? rules.bytes[s] / Rules.ENTRY_BYTES : 0;
            }
            entryPlace = new int[most];
            type = new int[most];
            target = new long[most];
            spot = new int[most];
            for (int s = 1; s < rules.sections && s < rules.role.length; s++) {
                if (rules.role[s] == Rules.FIXES) {
                    addSection(image, rules, s);
                }
            }
        }

        private void addSection(Image image, Rules rules, int s) {
            int info = rules.infoOf(s);
            if (info < 0 || info >= rules.offset.length) {
                return;
            }
            int fixes = rules.bytes[s] / Rules.ENTRY_BYTES;
            for (int k = 0; k < fixes && used < type.length; k++) {
                int fix = rules.offset[s] + Rules.ENTRY_BYTES * k;
                if (image.wordAt(fix + 8) != 0) {
                    int symbol = rules.symbolAt(image.wordAt(fix + 12));
                    entryPlace[used] = fix;
                    type[used] = image.wordAt(fix + 8);
                    target[used] = image.longAt(symbol + 8) + image.longAt(fix + 16);
                    spot[used] = rules.offset[info] + (int) (image.longAt(fix) - rules.address[info]);
                    used++;
                }
            }
        }
    }

    /** A file taken apart into functions and blocks, and the rules 7 to 12 for that. */
    private static final class Program {
        static final int END_NONE = 0;
        static final int END_B_IN = 1;
        static final int END_B_OUT = 2;
        static final int END_CONDITIONAL = 3;
        static final int END_BL = 4;
        static final int END_BLR = 5;
        static final int END_BR = 6;
        static final int END_RET = 7;
        private static final int FUNCTION_KIND = 2;
        private static final long TARGET_MOST = 2147483648L;

        final Image image;
        final Rules rules;
        final Fixes fixes;
        final long base;
        final long entry;
        final int textPlace;
        final int[] words;
        int at;
        int functions;
        int blocks;
        private final int[] functionStart;
        private final int[] functionSymbol;
        private final int[] functionOf;
        private final int[] fixOf;
        private final int[] marks;
        private final int[] blockOf;
        private int[] blockStart;
        private int[] ends;
        private int[] goals;
        private boolean[] named;

        Program(Image file, Rules found) {
            image = file;
            rules = found;
            fixes = new Fixes(file, found);
            base = found.address[found.textSection];
            entry = found.entry;
            textPlace = found.offset[found.textSection];
            int n = Math.max(0, found.bytes[found.textSection] / 4);
            words = new int[n];
            functionStart = new int[n + 1];
            functionSymbol = new int[n];
            functionOf = new int[n];
            fixOf = new int[n];
            marks = new int[n];
            blockOf = new int[n];
            for (int i = 0; i < n; i++) {
                words[i] = file.wordAt(textPlace + 4 * i);
            }
        }

        /** The first rule of 7 to 12 that is broken, 0 if none is; then all blocks are known. */
        int takeApart() {
            at = textPlace;
            if (!functionsHold()) {
                return 7;
            }
            if (!instructionsHold()) {
                return 8;
            }
            if (!fixesHold()) {
                return 9;
            }
            if (!pagesHold()) {
                return 10;
            }
            if (!goingsHold()) {
                return 11;
            }
            if (!lastWordsHold()) {
                return 12;
            }
            findBlocks();
            return 0;
        }

        int textBytes() {
            return 4 * words.length;
        }

        /** Which word of the TEXT stands at an address, -1 if none does. */
        int wordAtAddress(long address) {
            long distance = address - base;
            boolean inside = address >= base && distance < textBytes() && (distance & 3) == 0;
            return inside ? (int) (distance >> 2) : -1;
        }

        boolean isInText(long address) {
            return address >= base && address - base < textBytes();
        }

        private boolean functionsHold() {
            // functionOf holds, till functions are numbered, how many words a function has that begins at a word.
            int found = 0;
            int symbols = rules.symbolCount();
            for (int k = 1; k < symbols; k++) {
                int symbol = rules.symbolAt(k);
                if (isFunction(symbol)) {
                    int first = wordAtAddress(image.longAt(symbol + 8));
                    long most = image.longAt(symbol + 16);
                    if (first < 0 || most <= 0 || most > textBytes() || (most & 3) != 0 || functionOf[first] != 0) {
                        return false;
                    }
                    functionOf[first] = (int) (most >> 2);
                    marks[first] = symbol;
                    found++;
                }
            }
            return numberFunctions() && functions == found;
        }

        boolean isFunction(int symbol) {
            return isTextSymbol(symbol) && (image.byteAt(symbol + 4) & 15) == FUNCTION_KIND;
        }

        boolean isTextSymbol(int symbol) {
            return image.halfAt(symbol + 6) == rules.textSection;
        }

        private boolean numberFunctions() {
            int first = 0;
            for (int f = 0; first < words.length && f < words.length; f++) {
                int most = functionOf[first];
                if (most <= 0 || most > words.length - first) {
                    return false;
                }
                functionStart[f] = first;
                functionSymbol[f] = marks[first];
                for (int i = first; i < first + most; i++) {
                    if (i > first && functionOf[i] != 0) {
                        return false;
                    }
                    functionOf[i] = f;
                }
                first += most;
                functions = f + 1;
            }
            functionStart[functions] = first;
            return first == words.length;
        }

        private boolean instructionsHold() {
            for (int i = 0; i < words.length; i++) {
                if (Code.kindOf(words[i]) == Code.NONE) {
                    at = textPlace + 4 * i;
                    return false;
                }
            }
            return true;
        }

        private boolean fixesHold() {
            Arrays.fill(fixOf, -1);
            for (int k = 0; k < fixes.used; k++) {
                int i = fixes.type[k] == Fixes.LONG ? -1 : fixes.spot[k] - textPlace >> 2;
                if (!targetHolds(fixes.type[k], fixes.target[k]) || !fixHolds(k, i)) {
                    at = fixes.entryPlace[k];
                    return false;
                }
                if (i >= 0 && i < fixOf.length) {
                    fixOf[i] = k;
                }
            }
            return true;
        }

        private boolean targetHolds(int type, long target) {
            if (isInText(target)) {
                boolean loads = type == Fixes.LOAD_BYTE || type == Fixes.LOAD_WORD || type == Fixes.LOAD_LONG;
                return (target - base & 3) == 0 && !loads;
            }
            return target != base + textBytes();
        }

        private boolean fixHolds(int k, int i) {
            long target = fixes.target[k];
            if (i < 0 || i >= words.length) {
                return image.longAt(fixes.spot[k]) == target;
            }
            int w = words[i];
            int low = (int) (target & 0xFFF);
            switch (fixes.type[k]) {
                case Fixes.PAGE:
                    return Code.kindOf(w) == Code.ADRP && target >= 0 && target < TARGET_MOST
                        && Code.madePage(w, base + 4L * i) == (target & ~0xFFFL);
                case Fixes.ADD:
                    // Of longs, not SUB, without flags, not moved by 12.
                    return (w & 0xFFC00000) == 0x91000000 && Code.numberOf(w) == low;
                case Fixes.LOAD_BYTE:
                    return loadHolds(w, 0, low);
                case Fixes.LOAD_WORD:
                    return loadHolds(w, 2, low);
                case Fixes.LOAD_LONG:
                    return loadHolds(w, 3, low);
                case Fixes.GO:
                    return Code.kindOf(w) == Code.B && goesTo(i, Code.B) == target;
                default:
                    return Code.kindOf(w) == Code.BL && goesTo(i, Code.BL) == target;
            }
        }

        private static boolean loadHolds(int w, int width, int low) {
            return Code.memoryKindOf(w) == Code.LOAD_NUMBER && w >>> 30 == width && Code.numberOf(w) << width == low;
        }

        private long goesTo(int i, int kindOf) {
            return base + 4L * (i + Code.distanceOf(words[i], kindOf));
        }

        private boolean pagesHold() {
            for (int i = 0; i < words.length; i++) {
                boolean fixed = fixOf[i] >= 0 && fixes.type[fixOf[i]] == Fixes.PAGE;
                if (!fixed && Code.kindOf(words[i]) == Code.ADRP) {
                    at = textPlace + 4 * i;
                    return false;
                }
            }
            return true;
        }

        private boolean goingsHold() {
            for (int i = 0; i < words.length; i++) {
                if (!goingHolds(i, Code.kindOf(words[i]))) {
                    at = textPlace + 4 * i;
                    return false;
                }
            }
            return true;
        }

        private boolean goingHolds(int i, int kindOf) {
            if (kindOf != Code.B && kindOf != Code.BL && !Code.isConditional(kindOf)) {
                return true;
            }
            int to = i + Code.distanceOf(words[i], kindOf);
            if (to < 0 || to >= words.length) {
                return false;
            }
            boolean inside = functionOf[to] == functionOf[i];
            boolean first = functionFrom(functionOf[to]) == to;
            return kindOf == Code.B ? inside || first : kindOf == Code.BL ? first : inside;
        }

        private boolean lastWordsHold() {
            for (int f = 0; f < functions; f++) {
                int last = functionStart[f + 1] - 1;
                int kindOf = last < 0 ? Code.NONE : Code.kindOf(words[last]);
                if (kindOf != Code.B && kindOf != Code.BR && kindOf != Code.RET) {
                    at = textPlace + 4 * last;
                    return false;
                }
            }
            return true;
        }

        private void findBlocks() {
            Arrays.fill(marks, Image.NO_MARK);
            markLeaders();
            blocks = 0;
            for (int i = 0; i < words.length; i++) {
                if (marks[i] != Image.NO_MARK) {
                    marks[i] = blocks;
                    blocks++;
                }
                blockOf[i] = blocks - 1;
            }
            blockStart = new int[blocks + 1];
            ends = new int[blocks];
            goals = new int[blocks];
            named = new boolean[blocks];
            for (int i = 0; i < words.length; i++) {
                if (marks[i] >= 0 && marks[i] < blocks) {
                    blockStart[marks[i]] = i;
                }
            }
            blockStart[blocks] = words.length;
            for (int b = 0; b < blocks; b++) {
                findEnd(b, blockStart[b + 1] - 1);
            }
            markNamed();
            image.setText(words, marks, textPlace);
            image.setGap(words.length, 0, words.length, textBytes());
        }

        private void markLeaders() {
            for (int f = 0; f < functions; f++) {
                lead(functionStart[f]);
            }
            lead(wordAtAddress(entry));
            for (int i = 0; i < words.length; i++) {
                int kindOf = Code.kindOf(words[i]);
                if (Code.goesAway(kindOf)) {
                    // The word behind a function's last one is a function's first one.
                    lead(i + 1);
                }
                if (kindOf == Code.B || Code.isConditional(kindOf)) {
                    lead(i + Code.distanceOf(words[i], kindOf));
                }
            }
            for (int k = 0; k < fixes.used; k++) {
                lead(wordAtAddress(fixes.target[k]));
            }
        }

        private void lead(int i) {
            if (i >= 0 && i < marks.length) {
                marks[i] = 0;
            }
        }

        private void findEnd(int b, int last) {
            goals[b] = -1;
            if (last < 0 || last >= words.length) {
                return;
            }
            int kindOf = Code.kindOf(words[last]);
            ends[b] = endOfKind(kindOf);
            if (kindOf == Code.B || kindOf == Code.BL || Code.isConditional(kindOf)) {
                int to = last + Code.distanceOf(words[last], kindOf);
                if (to >= 0 && to < words.length) {
                    goals[b] = blockOf[to];
                    if (kindOf == Code.B && functionOf[to] != functionOf[last]) {
                        ends[b] = END_B_OUT;
                    }
                }
            }
        }

        private static int endOfKind(int kindOf) {
            switch (kindOf) {
                case Code.B:
                    return END_B_IN;
                case Code.B_COND:
                case Code.CBZ:
                case Code.TBZ:
                    return END_CONDITIONAL;
                case Code.BL:
                    return END_BL;
                case Code.BLR:
                    return END_BLR;
                case Code.BR:
                    return END_BR;
                case Code.RET:
                    return END_RET;
                default:
                    return END_NONE;
            }
        }

        private void markNamed() {
            for (int k = 0; k < fixes.used; k++) {
                int i = wordAtAddress(fixes.target[k]);
                if (fixes.type[k] == Fixes.LONG && i >= 0) {
                    named[blockOf[i]] = true;
                }
            }
        }

        boolean hasFunction(int f) {
            return f >= 0 && f < functions;
        }

        boolean hasBlock(int b) {
            return b >= 0 && b < blocks;
        }

        int functionFrom(int f) {
            return f >= 0 && f <= functions ? functionStart[f] : 0;
        }

        int symbolOf(int f) {
            return hasFunction(f) ? functionSymbol[f] : 0;
        }

        int wordsOfFunction(int f) {
            return functionFrom(f + 1) - functionFrom(f);
        }

        int firstBlock(int f) {
            return hasFunction(f) ? blockOf[functionStart[f]] : -1;
        }

        /** The block behind a function's last one. */
        int blockBehind(int f) {
            return f + 1 < functions ? firstBlock(f + 1) : blocks;
        }

        int blockFrom(int b) {
            return b >= 0 && b <= blocks ? blockStart[b] : 0;
        }

        int wordsOf(int b) {
            return b >= 0 && b < blocks ? blockStart[b + 1] - blockStart[b] : 0;
        }

        long addressOf(int b) {
            return base + 4L * blockFrom(b);
        }

        int ownerOf(int b) {
            return b >= 0 && b < blocks ? functionOf[blockStart[b]] : -1;
        }

        int blockOfWord(int i) {
            return i >= 0 && i < blockOf.length ? blockOf[i] : -1;
        }

        int fixOfWord(int i) {
            return i >= 0 && i < fixOf.length ? fixOf[i] : -1;
        }

        int endOf(int b) {
            return b >= 0 && b < blocks ? ends[b] : END_NONE;
        }

        int goalOf(int b) {
            return b >= 0 && b < blocks ? goals[b] : -1;
        }

        boolean isNamed(int b) {
            return hasBlock(b) && named[b];
        }

        int nextOf(int b) {
            int e = endOf(b);
            return e == END_NONE || e == END_CONDITIONAL || e == END_BL || e == END_BLR ? b + 1 : -1;
        }

        int takenOf(int b) {
            int e = endOf(b);
            return e == END_B_IN || e == END_CONDITIONAL ? goalOf(b) : -1;
        }

        int blockWithLast(long address) {
            int i = wordAtAddress(address);
            int b = blockOfWord(i);
            return b >= 0 && blockFrom(b + 1) - 1 == i ? b : -1;
        }

        int blockWithFirst(long address) {
            int i = wordAtAddress(address);
            int b = blockOfWord(i);
            return b >= 0 && blockFrom(b) == i ? b : -1;
        }

        boolean succeeds(int u, int v) {
            if (!hasBlock(u) || !hasBlock(v)) {
                return false;
            }
            if (ends[u] == END_BR) {
                return named[v] && ownerOf(u) == ownerOf(v);
            }
            return v == nextOf(u) || v == takenOf(u);
        }

        /** Whether block u calls the function whose first block v is. */
        boolean mayCall(int u, int v) {
            int e = endOf(u);
            if (e == END_BL || e == END_B_OUT) {
                return v == goalOf(u);
            }
            return e == END_BLR && v == firstBlock(ownerOf(v));
        }

        boolean falls(int u, int v) {
            if (endOf(u) == END_B_IN) {
                return v == goalOf(u) && wordsOf(u) > 1 && v != u + 1;
            }
            return v >= 0 && (v == nextOf(u) || v == takenOf(u));
        }
    }

    /** What edge() told: each way and each call once, with how often it was gone. */
    private static final class Counts {
        private static final int MOST = 512;

        private final Program program;
        int used;
        final int[] from;
        final int[] to;
        final boolean[] isCall;
        final long[] times;

        Counts(Program of) {
            program = of;
            from = new int[MOST];
            to = new int[MOST];
            isCall = new boolean[MOST];
            times = new long[MOST];
        }

        void add(int u, int v, boolean call, long more) {
            for (int i = 0; i < used; i++) {
                if (from[i] == u && to[i] == v && isCall[i] == call) {
                    times[i] += more;
                    return;
                }
            }
            // An object has no more calls than there is room for.
            if (used < MOST) {
                from[used] = u;
                to[used] = v;
                isCall[used] = call;
                times[used] = more;
                used++;
            }
        }

        long timesOfWay(int u, int v) {
            for (int i = 0; i < used; i++) {
                if (!isCall[i] && from[i] == u && to[i] == v) {
                    return times[i];
                }
            }
            return 0;
        }

        long timesOfCalls(int f, int g) {
            long sum = 0;
            for (int i = 0; i < used; i++) {
                if (isCall[i] && program.ownerOf(from[i]) == f && program.ownerOf(to[i]) == g) {
                    sum += times[i];
                }
            }
            return sum;
        }

        long heatOf(int f) {
            long sum = 0;
            for (int i = 0; i < used; i++) {
                if (isCall[i] && program.ownerOf(to[i]) == f) {
                    sum += times[i];
                }
            }
            return sum;
        }

        long timesOf(int b) {
            long comes = 0;
            long goes = 0;
            long calls = 0;
            for (int i = 0; i < used; i++) {
                if (to[i] == b) {
                    comes += times[i];
                }
                if (from[i] == b && isCall[i]) {
                    calls += times[i];
                }
                if (from[i] == b && !isCall[i]) {
                    goes += times[i];
                }
            }
            return Math.max(comes, Math.max(goes, calls));
        }
    }

    /** The rows of hot and of cold blocks. */
    private static final class Order {
        private final Program program;
        private final Counts counts;
        private final Clusters clusters;
        final int[] row;
        int hotBlocks;
        private final boolean[] hot;
        private final int[] chainOf;
        private final int[] link;
        private final boolean[] placed;
        private final long[] score;
        private final int[] ways;
        private final int[] chained;
        private final int[] spotChained;
        private final int[] spotByNumber;
        private final int[] rowFrom;
        private final int[] hotBytes;
        private final long[] allWeight;
        private final long[] hotWeight;
        private final long[] chainedWeight;

        Order(Program of, Counts told) {
            program = of;
            counts = told;
            clusters = new Clusters(of, told);
            row = new int[of.blocks];
            hot = new boolean[of.blocks];
            chainOf = new int[of.blocks];
            link = new int[of.blocks];
            placed = new boolean[of.blocks];
            score = new long[of.blocks];
            ways = new int[told.from.length];
            chained = new int[of.blocks];
            spotChained = new int[of.blocks];
            spotByNumber = new int[of.blocks];
            rowFrom = new int[of.functions + 1];
            hotBytes = new int[of.functions];
            allWeight = new long[of.functions];
            hotWeight = new long[of.functions];
            chainedWeight = new long[of.functions];
        }

        long weightByNumber(int f) {
            return f >= 0 && f < allWeight.length ? allWeight[f] : 0;
        }

        long weightAsLaid(int f) {
            return f >= 0 && f < hotWeight.length ? Math.max(hotWeight[f], chainedWeight[f]) : 0;
        }

        void arrange(int page) {
            markHot();
            joinChains();
            for (int f = 0; f < program.functions; f++) {
                if (hotBytes[f] > 0) {
                    placeChains(f);
                }
            }
            weigh();
            clusters.group(hotBytes, page);
            fillRow();
        }

        private void markHot() {
            for (int b = 0; b < hot.length; b++) {
                hot[b] = false;
                placed[b] = false;
                score[b] = 0;
                chainOf[b] = b;
                link[b] = -1;
            }
            // No count is 0, so whatever was told of makes hot.
            for (int i = 0; i < counts.used; i++) {
                hot[counts.from[i]] = true;
                hot[counts.to[i]] = true;
            }
            Arrays.fill(hotBytes, 0);
            Arrays.fill(rowFrom, 0);
            int next = 0;
            for (int b = 0; b < hot.length; b++) {
                if (hot[b]) {
                    int f = program.ownerOf(b);
                    hotBytes[f] += 4 * program.wordsOf(b);
                    spotByNumber[b] = next;
                    next++;
                    rowFrom[f + 1] = next;
                }
            }
            for (int f = 0; f < hotBytes.length; f++) {
                rowFrom[f + 1] = Math.max(rowFrom[f + 1], rowFrom[f]);
            }
            hotBlocks = next;
        }

        private void joinChains() {
            int used = 0;
            for (int i = 0; i < counts.used; i++) {
                if (isFalling(i)) {
                    used = putWay(i, used);
                }
            }
            for (int i = 0; i < used; i++) {
                join(counts.from[ways[i]], counts.to[ways[i]]);
            }
        }

        private boolean isFalling(int i) {
            return !counts.isCall[i] && program.falls(counts.from[i], counts.to[i]);
        }

        /** Puts a way among those that are in order already. */
        private int putWay(int way, int used) {
            int at = used;
            while (at > 0 && comesBefore(way, ways[at - 1])) {
                ways[at] = ways[at - 1];
                at--;
            }
            ways[at] = way;
            return used + 1;
        }

        private boolean comesBefore(int i, int j) {
            if (counts.times[i] != counts.times[j]) {
                return counts.times[i] > counts.times[j];
            }
            if (counts.from[i] != counts.from[j]) {
                return counts.from[i] < counts.from[j];
            }
            return counts.to[i] < counts.to[j];
        }

        /** A chain bears the number of its first block. */
        private void join(int u, int v) {
            boolean first = v == program.firstBlock(program.ownerOf(v));
            if (link[u] >= 0 || chainOf[v] != v || chainOf[u] == v || first) {
                return;
            }
            link[u] = v;
            int b = v;
            for (int i = 0; i < link.length && b >= 0; i++) {
                chainOf[b] = chainOf[u];
                b = link[b];
            }
        }

        private void placeChains(int f) {
            int first = program.firstBlock(f);
            int next = rowFrom[f];
            int chain = hot[first] ? first : bestChain(f);
            for (int i = rowFrom[f]; i < rowFrom[f + 1] && chain >= 0; i++) {
                placed[chain] = true;
                int b = chain;
                while (b >= 0 && next < rowFrom[f + 1]) {
                    chained[next] = b;
                    spotChained[b] = next;
                    next++;
                    b = link[b];
                }
                addScores(chain);
                chain = bestChain(f);
            }
        }

        private void addScores(int chain) {
            for (int i = 0; i < counts.used; i++) {
                if (!counts.isCall[i]) {
                    int from = chainOf[counts.from[i]];
                    int to = chainOf[counts.to[i]];
                    if (from == chain && !placed[to]) {
                        score[to] += counts.times[i];
                    }
                    if (to == chain && !placed[from]) {
                        score[from] += counts.times[i];
                    }
                }
            }
        }

        private int bestChain(int f) {
            int best = -1;
            int behind = program.blockBehind(f);
            for (int b = program.firstBlock(f); b < behind; b++) {
                // A chain is met first at its least block, so equal ones stay behind.
                int chain = chainOf[b];
                if (hot[b] && !placed[chain] && (best < 0 || score[chain] > score[best])) {
                    best = chain;
                }
            }
            return best;
        }

        private void weigh() {
            Arrays.fill(allWeight, 0L);
            Arrays.fill(hotWeight, 0L);
            Arrays.fill(chainedWeight, 0L);
            for (int i = 0; i < counts.used; i++) {
                if (isFalling(i)) {
                    int u = counts.from[i];
                    int v = counts.to[i];
                    int f = program.ownerOf(u);
                    allWeight[f] += v == u + 1 ? counts.times[i] : 0;
                    hotWeight[f] += spotByNumber[v] == spotByNumber[u] + 1 ? counts.times[i] : 0;
                    chainedWeight[f] += spotChained[v] == spotChained[u] + 1 ? counts.times[i] : 0;
                }
            }
        }

        private void fillRow() {
            int next = 0;
            for (int i = 0; i < clusters.used; i++) {
                int f = clusters.sequence[i];
                if (chainedWeight[f] > hotWeight[f]) {
                    for (int k = rowFrom[f]; k < rowFrom[f + 1] && next < row.length; k++) {
                        row[next] = chained[k];
                        next++;
                    }
                } else {
                    next = fillByNumber(program.firstBlock(f), program.blockBehind(f), true, next);
                }
            }
            fillByNumber(0, program.blocks, false, next);
        }

        private int fillByNumber(int from, int to, boolean wanted, int at) {
            int next = at;
            for (int b = from; b < to && next < row.length; b++) {
                if (hot[b] == wanted) {
                    row[next] = b;
                    next++;
                }
            }
            return next;
        }
    }

    /** Functions with hot blocks, those that call one another close together. */
    private static final class Clusters {
        private final Program program;
        private final Counts counts;
        final int[] sequence;
        int used;
        private final int[] waiting;
        private final long[] heat;
        private final long[] bytes;
        private final int[] clusterOf;
        private final int[] link;
        private final int[] last;
        private final int[] least;
        private final long[] fromEach;

        Clusters(Program of, Counts told) {
            program = of;
            counts = told;
            sequence = new int[of.functions];
            waiting = new int[of.functions];
            heat = new long[of.functions];
            bytes = new long[of.functions];
            clusterOf = new int[of.functions];
            link = new int[of.functions];
            last = new int[of.functions];
            least = new int[of.functions];
            fromEach = new long[of.functions];
        }

        void group(int[] hotBytes, int page) {
            begin(hotBytes);
            sortByHeat();
            for (int i = 0; i < used; i++) {
                int f = waiting[i];
                int caller = callerOf(f);
                if (caller >= 0) {
                    putBehind(clusterOf[caller], clusterOf[f], page);
                }
            }
            sortClusters();
        }

        private void begin(int[] hotBytes) {
            used = 0;
            for (int f = 0; f < heat.length; f++) {
                heat[f] = 0;
                bytes[f] = hotBytes[f];
                clusterOf[f] = f;
                link[f] = -1;
                last[f] = f;
                least[f] = f;
                if (hotBytes[f] > 0) {
                    waiting[used] = f;
                    used++;
                }
            }
            for (int i = 0; i < counts.used; i++) {
                if (counts.isCall[i]) {
                    heat[program.ownerOf(counts.to[i])] += counts.times[i];
                }
            }
        }

        private void sortByHeat() {
            for (int i = 1; i < used; i++) {
                int f = waiting[i];
                int at = i;
                while (at > 0 && heat[f] > heat[waiting[at - 1]]) {
                    waiting[at] = waiting[at - 1];
                    at--;
                }
                waiting[at] = f;
            }
        }

        /** The other function with the most calls of f, -1 if there is none. */
        private int callerOf(int f) {
            for (int i = 0; i < counts.used; i++) {
                if (isCallOf(i, f)) {
                    fromEach[program.ownerOf(counts.from[i])] += counts.times[i];
                }
            }
            int best = -1;
            for (int i = 0; i < counts.used; i++) {
                int g = program.ownerOf(counts.from[i]);
                if (isCallOf(i, f) && (best < 0 || fromEach[g] > fromEach[best]
                    || fromEach[g] == fromEach[best] && g < best)) {
                    best = g;
                }
            }
            for (int i = 0; i < counts.used; i++) {
                fromEach[program.ownerOf(counts.from[i])] = 0;
            }
            return best;
        }

        private boolean isCallOf(int i, int f) {
            return counts.isCall[i] && program.ownerOf(counts.to[i]) == f && program.ownerOf(counts.from[i]) != f;
        }

        private void putBehind(int front, int back, int page) {
            if (front == back || bytes[front] + bytes[back] > page) {
                return;
            }
            link[last[front]] = back;
            last[front] = last[back];
            least[front] = Math.min(least[front], least[back]);
            bytes[front] += bytes[back];
            heat[front] += heat[back];
            int f = back;
            for (int i = 0; i < link.length && f >= 0; i++) {
                clusterOf[f] = front;
                f = link[f];
            }
        }

        private void sortClusters() {
            int clusters = 0;
            for (int f = 0; f < clusterOf.length; f++) {
                if (bytes[f] > 0 && clusterOf[f] == f) {
                    int at = clusters;
                    while (at > 0 && isHotter(f, waiting[at - 1])) {
                        waiting[at] = waiting[at - 1];
                        at--;
                    }
                    waiting[at] = f;
                    clusters++;
                }
            }
            int next = 0;
            for (int i = 0; i < clusters; i++) {
                int f = waiting[i];
                while (f >= 0 && next < sequence.length) {
                    sequence[next] = f;
                    next++;
                    f = link[f];
                }
            }
        }

        /** Heats over sizes are set against one another as products, which lose nothing. */
        private boolean isHotter(int c, int e) {
            long mine = heat[c] * bytes[e];
            long other = heat[e] * bytes[c];
            return mine != other ? mine > other : least[c] < least[e];
        }
    }

    /** Blocks written in rows: the new TEXT, and the new file around it. */
    private static final class Layout {
        private static final int PLAIN = 0;
        private static final int PUT = 1;
        private static final int LEFT = 2;
        private static final int TURNED = 3;

        private final Program program;
        final Image image;
        private final int[] row;
        int hotBlocks;
        private final int[] spot;
        private final int[] start;
        private final int[] shape;
        private final int[] aim;
        private final boolean[] isLong;
        private final int[] words;
        private final int[] marks;
        private int hotWords;
        private int gapWords;
        private int allWords;
        int madeLong;
        int leftOut;
        int turned;
        int putBehind;
        int strayed;

        Layout(Program of) {
            program = of;
            image = new Image(of.image.bytes, of.image.bytes.length);
            row = new int[of.blocks];
            spot = new int[of.blocks];
            start = new int[of.blocks];
            shape = new int[of.blocks];
            aim = new int[of.blocks];
            isLong = new boolean[of.blocks];
            // A block grows by a B put behind it and a B of its long END at most.
            words = new int[of.words.length + 2 * of.blocks];
            marks = new int[of.words.length + 2 * of.blocks];
            image.setText(words, marks, of.textPlace);
        }

        int newBytes() {
            return 4 * allWords;
        }

        int blockInRow(int k) {
            return k >= 0 && k < row.length ? row[k] : -1;
        }

        void writeByNumber() {
            for (int b = 0; b < row.length; b++) {
                row[b] = b;
            }
            writeRows(row.length, 4);
        }

        void write(int[] order, int hot, int apart) {
            System.arraycopy(order, 0, row, 0, Math.min(order.length, row.length));
            writeRows(hot, apart);
        }

        private void writeRows(int hot, int apart) {
            hotBlocks = hot;
            strayed = 0;
            chooseShapes();
            setStarts(apart);
            // Each further round makes at least one more END long.
            for (int i = 0; i < row.length && lengthen(); i++) {
                setStarts(apart);
            }
            countShapes();
            image.setGap(hotWords, gapWords, allWords, program.textBytes());
            putWords();
            setFixedWords();
            image.copyBytesOf(program.image);
            setHeads();
            setSymbols();
            setFixes();
        }

        private void chooseShapes() {
            for (int k = 0; k < row.length; k++) {
                int b = row[k];
                spot[b] = k;
                isLong[b] = false;
                boolean rowEnds = k + 1 == hotBlocks || k + 1 >= row.length;
                shape[b] = shapeOf(b, rowEnds ? -1 : row[k + 1]);
                aim[b] = shape[b] == TURNED ? program.nextOf(b) : program.goalOf(b);
            }
        }

        private int shapeOf(int b, int behind) {
            int next = program.nextOf(b);
            int taken = program.takenOf(b);
            if (program.endOf(b) == Program.END_B_IN) {
                return taken == behind && program.wordsOf(b) > 1 && taken != b + 1 ? LEFT : PLAIN;
            }
            if (next < 0 || next == behind) {
                return PLAIN;
            }
            return taken >= 0 && taken == behind ? TURNED : PUT;
        }

        private int lengthOf(int b) {
            int change = shape[b] == PUT ? 1 : shape[b] == LEFT ? -1 : 0;
            return program.wordsOf(b) + change + (isLong[b] ? 1 : 0);
        }

        private void setStarts(int apart) {
            int next = 0;
            gapWords = 0;
            for (int k = 0; k < row.length; k++) {
                if (k == hotBlocks) {
                    hotWords = next;
                    long hotEnd = program.base + 4L * next;
                    gapWords = (int) ((-hotEnd & apart - 1) >> 2);
                    next += gapWords;
                }
                start[row[k]] = next;
                next += lengthOf(row[k]);
            }
            if (hotBlocks >= row.length) {
                hotWords = next;
            }
            allWords = next;
        }

        private boolean lengthen() {
            boolean more = false;
            for (int b = 0; b < row.length; b++) {
                if (program.endOf(b) == Program.END_CONDITIONAL && !isLong[b]) {
                    int last = program.wordsOf(b) - 1;
                    int kindOf = Code.goingKindOf(program.words[program.blockFrom(b) + last]);
                    if (!Code.reaches(kindOf, startOf(aim[b]) - (start[b] + last))) {
                        isLong[b] = true;
                        more = true;
                    }
                }
            }
            return more;
        }

        private int startOf(int b) {
            return b >= 0 && b < start.length ? start[b] : 0;
        }

        private void countShapes() {
            madeLong = 0;
            leftOut = 0;
            turned = 0;
            putBehind = 0;
            for (int b = 0; b < row.length; b++) {
                madeLong += isLong[b] ? 1 : 0;
                leftOut += shape[b] == LEFT ? 1 : 0;
                turned += shape[b] == TURNED ? 1 : 0;
                putBehind += shape[b] == PUT ? 1 : 0;
            }
        }

        private void putWords() {
            Arrays.fill(marks, Image.NO_MARK);
            int next = 0;
            for (int k = 0; k < row.length; k++) {
                int b = row[k];
                int many = program.wordsOf(b);
                if (many < 1 || next + many > words.length) {
                    return;
                }
                System.arraycopy(program.words, program.blockFrom(b), words, next, many);
                marks[next] = b;
                next = putEnd(b, next + many - 1);
            }
        }

        private void put(int i, int word) {
            if (i >= 0 && i < words.length) {
                words[i] = word;
            }
        }

        /** Writes the END that stands at a word, and what comes behind it; tells where the next block begins. */
        private int putEnd(int b, int last) {
            int here = start[b] + program.wordsOf(b) - 1;
            int w = words[last];
            int next = last + 1;
            switch (program.endOf(b)) {
                case Program.END_B_IN:
                case Program.END_B_OUT:
                    if (shape[b] == LEFT) {
                        return last;
                    }
                    put(last, going(w, Code.B, here, aim[b]));
                    break;
                case Program.END_CONDITIONAL:
                    next = putConditional(b, last, here);
                    break;
                case Program.END_BL:
                    put(last, going(w, Code.BL, here, aim[b]));
                    markReturn(next);
                    break;
                case Program.END_BLR:
                    markReturn(next);
                    break;
                default:
                    break;
            }
            if (shape[b] == PUT) {
                put(next, going(Code.PLAIN_B, Code.B, here + next - last, program.nextOf(b)));
                next++;
            }
            return next;
        }

        private int putConditional(int b, int last, int here) {
            int kindOf = Code.goingKindOf(words[last]);
            int w = shape[b] == TURNED ? Code.turnedOver(words[last], kindOf) : words[last];
            if (!isLong[b]) {
                put(last, going(w, kindOf, here, aim[b]));
                return last + 1;
            }
            put(last, Code.withDistance(Code.turnedOver(w, kindOf), kindOf, 2));
            put(last + 1, going(Code.PLAIN_B, Code.B, here + 1, aim[b]));
            return last + 2;
        }

        private int going(int w, int kindOf, int from, int block) {
            int distance = startOf(block) - from;
            if (!Code.reaches(kindOf, distance)) {
                strayed++;
            }
            return Code.withDistance(w, kindOf, distance);
        }

        /** A block that begins here takes the mark over. */
        private void markReturn(int i) {
            if (i >= 0 && i < marks.length) {
                marks[i] = Image.BEHIND_CALL;
            }
        }

        /** The new address of a word of the TEXT; what is none stays. */
        long newAddress(long address) {
            int i = program.wordAtAddress(address);
            int b = program.blockOfWord(i);
            return b < 0 ? address : program.base + 4L * (startOf(b) + i - program.blockFrom(b));
        }

        private void setFixedWords() {
            Fixes fixes = program.fixes;
            for (int k = 0; k < fixes.used; k++) {
                boolean page = fixes.type[k] == Fixes.PAGE;
                if (page || fixes.type[k] == Fixes.ADD && program.isInText(fixes.target[k])) {
                    long to = newAddress(fixes.target[k]);
                    long here = newAddress(program.base + fixes.spot[k] - program.textPlace);
                    int i = image.indexAt(here - program.base);
                    int w = image.wordOf(i);
                    put(i, page ? withPage(w, here, to) : Code.withNumber(w, (int) (to & 0xFFF)));
                }
            }
        }

        private int withPage(int w, long here, long to) {
            long pages = (to >> 12) - (here >> 12);
            if (!Code.pagesFit(pages)) {
                strayed++;
            }
            return Code.withPages(w, (int) pages);
        }

        private void setHeads() {
            Rules rules = program.rules;
            image.setLong(24, newAddress(program.entry));
            image.setLong(40, rules.headsAt + image.shift);
            int segment = rules.segmentHead(rules.segments - 1);
            image.setLong(segment + 32, newBytes());
            image.setLong(segment + 40, newBytes());
            for (int s = 1; s < rules.sections && s < rules.offset.length; s++) {
                if (rules.offset[s] >= rules.textEnd()) {
                    image.setLong(rules.sectionHead(s) + 24, rules.offset[s] + image.shift);
                }
            }
            image.setLong(rules.sectionHead(rules.textSection) + 32, newBytes());
        }

        private void setSymbols() {
            Rules rules = program.rules;
            int symbols = rules.symbolCount();
            for (int k = 1; k < symbols; k++) {
                image.setLong(rules.symbolAt(k) + 8, newValue(rules.symbolAt(k)));
            }
            for (int f = 0; f < program.functions; f++) {
                image.setLong(program.symbolOf(f) + 16, newBytesOf(f));
            }
        }

        private long newValue(int symbol) {
            long value = program.image.longAt(symbol + 8);
            if (!program.isTextSymbol(symbol)) {
                return value;
            }
            return value == program.base + program.textBytes() ? program.base + newBytes() : newAddress(value);
        }

        /** A function's blocks of one row stand together in it. */
        private long newBytesOf(int f) {
            int first = program.firstBlock(f);
            boolean firstIsHot = spot[first] < hotBlocks;
            int behind = program.blockBehind(f);
            long sum = 0;
            for (int b = first; b < behind; b++) {
                sum += spot[b] < hotBlocks == firstIsHot ? 4L * lengthOf(b) : 0;
            }
            return sum;
        }

        private void setFixes() {
            Fixes fixes = program.fixes;
            for (int k = 0; k < fixes.used; k++) {
                int fix = fixes.entryPlace[k];
                int symbol = program.rules.symbolAt(program.image.wordAt(fix + 12));
                long to = newAddress(fixes.target[k]);
                image.setLong(fix + 16, to - newValue(symbol));
                if (fixes.type[k] != Fixes.LONG) {
                    setTextFix(fix, fixes.spot[k] - program.textPlace);
                } else if (program.isInText(fixes.target[k])) {
                    image.setLong(fixes.spot[k], to);
                }
            }
        }

        private void setTextFix(int fix, int distance) {
            int i = distance >> 2;
            int b = program.blockOfWord(i);
            if (b >= 0 && shape[b] == LEFT && program.blockFrom(b + 1) - 1 == i) {
                image.setLong(fix, 0);
                image.setLong(fix + 8, 0);
                image.setLong(fix + 16, 0);
            } else {
                image.setLong(fix, newAddress(program.base + distance));
            }
        }
    }

    /** The segments and the stack of one run; of run 1 also which longs are CODE. */
    private static final class Memory {
        static final long STACK_END = 2147483648L;
        private static final int STACK_BYTES = 65536;
        private static final int CELLS_MOST = TRAY_MOST / 8 + 1 + STACK_BYTES / 8;
        /** From here on spots are those of the TEXT, which no run changes. */
        private static final int TEXT_SPOT = 1 << 28;
        private static final int REGIONS = 5;

        private Image image;
        private int regions;
        private final long[] first;
        private final long[] bytes;
        private final int[] firstSpot;
        private final boolean[] writes;
        private final long[] cells;
        private final byte[] codes;
        private final boolean hasCodes;

        Memory(boolean withCodes) {
            hasCodes = withCodes;
            first = new long[REGIONS];
            bytes = new long[REGIONS];
            firstSpot = new int[REGIONS];
            writes = new boolean[REGIONS];
            cells = new long[CELLS_MOST];
            codes = new byte[withCodes ? CELLS_MOST : 0];
        }

        void begin(Image file, Program program) {
            image = file;
            regions = 0;
            Rules rules = program.rules;
            int dataSegments = rules.segments - 1;
            for (int i = 0; i < dataSegments && i < rules.segmentFlags.length; i++) {
                boolean mayWrite = (rules.segmentFlags[i] & Rules.WRITES) != 0;
                addRegion(rules.segmentAddress[i], rules.segmentSize[i], rules.segmentOffset[i], mayWrite);
            }
            addRegion(program.base, 4L * file.allWords, TEXT_SPOT, false);
            // Segments stand in the file as they do in memory, modulo 8; so a long of theirs is a cell.
            int dataCells = program.textPlace + 7 >> 3;
            addRegion(STACK_END - STACK_BYTES, STACK_BYTES, 8 * dataCells, true);
            fillCells(dataCells);
            if (hasCodes) {
                markCodes(program);
            }
        }

        private void addRegion(long from, long many, int spot, boolean mayWrite) {
            if (regions < REGIONS) {
                first[regions] = from;
                bytes[regions] = many;
                firstSpot[regions] = spot;
                writes[regions] = mayWrite;
                regions++;
            }
        }

        private void fillCells(int dataCells) {
            for (int i = 0; i < dataCells && i < cells.length; i++) {
                cells[i] = image.longAt(8 * i);
            }
            Arrays.fill(cells, Math.min(dataCells, cells.length), cells.length, 0L);
            Arrays.fill(codes, (byte) 0);
        }

        private void markCodes(Program program) {
            Fixes fixes = program.fixes;
            for (int k = 0; k < fixes.used; k++) {
                int cell = fixes.spot[k] >> 3;
                if (fixes.type[k] == Fixes.LONG && program.isInText(fixes.target[k])
                    && cell >= 0 && cell < codes.length) {
                    codes[cell] = Machine.START;
                }
            }
        }

        /** Where bytes that lie wholly in one segment or the stack stand; -1 if they do not. */
        int spotOf(long address, int many) {
            for (int i = 0; i < regions; i++) {
                long distance = address - first[i];
                if (address >= first[i] && distance <= bytes[i] - many) {
                    return firstSpot[i] + (int) distance;
                }
            }
            return -1;
        }

        boolean mayWrite(int spot) {
            for (int i = 0; i < regions; i++) {
                if (spot >= firstSpot[i] && spot - firstSpot[i] < bytes[i]) {
                    return writes[i];
                }
            }
            return false;
        }

        private long cellAt(int i) {
            return i >= 0 && i < cells.length ? cells[i] : 0;
        }

        long load(int spot, int many) {
            long value = 0;
            if (spot >= TEXT_SPOT) {
                int from = image.textPlace + spot - TEXT_SPOT;
                for (int i = 0; i < many && i < 8; i++) {
                    value |= (long) image.byteAt(from + i) << 8 * i;
                }
                return value;
            }
            int shift = 8 * (spot & 7);
            value = cellAt(spot >> 3) >>> shift;
            if (shift + 8 * many > 64) {
                value |= cellAt((spot >> 3) + 1) << 64 - shift;
            }
            return many >= 8 ? value : value & (1L << 8 * many) - 1;
        }

        void store(int spot, int many, long value) {
            for (int i = 0; i < many && i < 8; i++) {
                int cell = spot + i >> 3;
                int shift = 8 * (spot + i & 7);
                if (cell >= 0 && cell < cells.length) {
                    cells[cell] = cells[cell] & ~(255L << shift) | (value >>> 8 * i & 255) << shift;
                }
            }
        }

        void setCode(int spot, int code) {
            int cell = spot >> 3;
            if (cell >= 0 && cell < codes.length) {
                codes[cell] = (byte) code;
            }
        }

        int codeAt(int spot) {
            int cell = spot >> 3;
            return spot >= 0 && cell < codes.length ? codes[cell] : Machine.NUMBER;
        }

        /** Whether a part of any long that is CODE is among these bytes. */
        boolean holdsCode(long address, int many) {
            long from = address & ~7L;
            int longs = (int) ((address - from + many + 7) >> 3);
            for (int i = 0; i < longs; i++) {
                if (codeAt(spotOf(from + 8L * i, 8)) != Machine.NUMBER) {
                    return true;
                }
            }
            return false;
        }

        int byteLeft(long address) {
            int spot = spotOf(address, 1);
            return spot < 0 || spot >= TEXT_SPOT ? -1 : (int) load(spot, 1);
        }

        int codeKept(long address) {
            int spot = spotOf(address, 8);
            return spot < 0 || spot >= TEXT_SPOT ? -1 : codeAt(spot);
        }
    }

    /** A run: the machine's registers, what it visits, and what its calls tell. */
    private static final class Machine {
        static final int NUMBER = 0;
        static final int START = 1;
        static final int RETURN = 2;
        static final int PAGE = 3;
        private static final int RUNNING = -1;
        private static final int USED_UP = 0;
        private static final int ENDED = 1;
        private static final int FAULT = 2;
        private static final int STOPPED = 3;
        private static final int ASTRAY = 4;
        private static final int WORDS_MOST = 20000;
        private static final int STEPS_MOST = 1000000;
        private static final int TRACED_MOST = 200;
        private static final int TOLD_MOST = 16384;
        private static final int TEXT_MOST = 4096;
        private static final int SP = 31;
        private static final int LINK = 30;

        private final boolean ofBlocks;
        final Memory memory;
        private Program program;
        private Image image;
        private int textMost;
        boolean hasRun;
        private final long[] x;
        private final int[] codes;
        int flags;
        private long pc;
        private long next;
        int outcome;
        int visits;
        private final int[] visited;
        private int wordsVisited;
        int done;
        int callsDone;
        private final long[] traces;
        int bytesTold;
        private final byte[] told;

        Machine(boolean runsBlocks) {
            ofBlocks = runsBlocks;
            memory = new Memory(runsBlocks);
            x = new long[32];
            codes = new int[32];
            visited = new int[VISITS_MOST];
            traces = new long[4 * TRACED_MOST];
            told = new byte[TOLD_MOST];
        }

        void forget() {
            hasRun = false;
        }

        void begin(Program of, Image file, long entry, int newBytes) {
            program = of;
            image = file;
            textMost = Math.max(of.textBytes(), newBytes);
            memory.begin(file, of);
            Arrays.fill(x, 0L);
            Arrays.fill(codes, NUMBER);
            x[SP] = Memory.STACK_END;
            flags = 0;
            pc = entry;
            outcome = RUNNING;
            visits = 0;
            wordsVisited = 0;
            done = 0;
            callsDone = 0;
            bytesTold = 0;
            hasRun = true;
        }

        int go(int visitsMost) {
            for (int i = 0; i < STEPS_MOST && outcome == RUNNING; i++) {
                step(visitsMost);
            }
            return outcome;
        }

        private void step(int visitsMost) {
            int i = image.indexAt(pc - program.base);
            if (i == Image.BEYOND) {
                outcome = FAULT;
                return;
            }
            int mark = image.markOf(i);
            if (mark >= 0 && !visitBlock(mark, visitsMost)) {
                outcome = USED_UP;
                return;
            }
            next = pc + 4;
            perform(image.wordOf(i), i);
            if (outcome == RUNNING || outcome == ENDED) {
                done++;
                pc = next;
            }
        }

        private boolean visitBlock(int b, int visitsMost) {
            int more = program.wordsOf(b);
            if (visits >= visitsMost || visits >= visited.length || wordsVisited + more > WORDS_MOST) {
                return false;
            }
            visited[visits] = b;
            visits++;
            wordsVisited += more;
            return true;
        }

        private void perform(int w, int i) {
            int kindOf = Code.kindOf(w);
            switch (kindOf) {
                case Code.ADD_NUMBER:
                    addNumber(w, i);
                    break;
                case Code.ADD:
                    add(w);
                    break;
                case Code.AND:
                    and(w);
                    break;
                case Code.MOVE:
                    move(w);
                    break;
                case Code.ADRP:
                    makePage(w, i);
                    break;
                case Code.MADD:
                    multiply(w);
                    break;
                case Code.TWO:
                    divideOrShift(w);
                    break;
                case Code.CHOOSE:
                    choose(w);
                    break;
                case Code.LOAD_NUMBER:
                case Code.LOAD_REGISTER:
                    loadOrStore(w, kindOf == Code.LOAD_NUMBER);
                    break;
                case Code.PAIR:
                    pair(w);
                    break;
                case Code.CALL:
                    callOut();
                    break;
                case Code.REST:
                    break;
                case Code.NONE:
                    outcome = FAULT;
                    break;
                default:
                    goAway(w, kindOf);
                    break;
            }
        }

        private void goAway(int w, int kindOf) {
            if (kindOf == Code.BR || kindOf == Code.BLR || kindOf == Code.RET) {
                leap(w >>> 5 & 31, kindOf == Code.BLR);
                return;
            }
            if ((kindOf == Code.CBZ || kindOf == Code.TBZ) && isCode(w & 31)) {
                outcome = STOPPED;
                return;
            }
            if (kindOf == Code.BL) {
                linkHere();
            }
            if (isGone(w, kindOf)) {
                next = pc + 4L * Code.distanceOf(w, kindOf);
            }
        }

        private boolean isGone(int w, int kindOf) {
            boolean turned = (w & 1 << 24) != 0;
            long value = numberIn(w & 31);
            switch (kindOf) {
                case Code.B_COND:
                    return Code.holds(w & 15, flags);
                case Code.CBZ:
                    return (w < 0 ? value == 0 : (int) value == 0) != turned;
                case Code.TBZ:
                    int bit = w >>> 19 & 31 | (w < 0 ? 32 : 0);
                    return ((value >>> bit & 1) == 0) != turned;
                default:
                    return true;
            }
        }

        private void leap(int n, boolean links) {
            boolean code = isCode(n);
            if (ofBlocks && (code ? codes[n] == PAGE : liesInText(numberIn(n), 4))) {
                outcome = STOPPED;
                return;
            }
            long to = numberIn(n);
            if (!ofBlocks && isAstray(to)) {
                outcome = ASTRAY;
                return;
            }
            next = to;
            if (links) {
                linkHere();
            }
        }

        /** Beyond the TEXT nothing is astray: there the fetch of the next word faults. */
        private boolean isAstray(long to) {
            long distance = to - program.base;
            boolean inText = distance >= 0 && distance < 4L * image.allWords;
            return inText && image.markOf(image.indexAt(distance)) == Image.NO_MARK;
        }

        private void linkHere() {
            x[LINK] = pc + 4;
            codes[LINK] = ofBlocks ? RETURN : NUMBER;
        }

        /** In run 1 no number may lead to the old or to the new TEXT. */
        private boolean liesInText(long address, int many) {
            return address > program.base - many && address < program.base + textMost;
        }

        private boolean isCode(int k) {
            return k != SP && codes[k] != NUMBER;
        }

        private long numberIn(int k) {
            return k == SP ? 0 : x[k];
        }

        private void setNumber(int d, long value, int w) {
            if (d != SP) {
                x[d] = w < 0 ? value : value & 0xFFFFFFFFL;
                codes[d] = NUMBER;
            }
        }

        private void setValue(int d, long value, int code) {
            if (d != SP) {
                x[d] = value;
                codes[d] = code;
            }
        }

        /** The target in the TEXT that a fix of a type tells for a word, -1 if none does. */
        private long codeTarget(int i, int type) {
            int k = ofBlocks ? program.fixOfWord(i) : -1;
            if (k < 0 || k >= program.fixes.used || program.fixes.type[k] != type) {
                return -1;
            }
            return program.isInText(program.fixes.target[k]) ? program.fixes.target[k] : -1;
        }

        private void makePage(int w, int i) {
            long target = codeTarget(i, Fixes.PAGE);
            if (target >= 0) {
                setValue(w & 31, target, PAGE);
            } else {
                setValue(w & 31, Code.madePage(w, pc), NUMBER);
            }
        }

        private void addNumber(int w, int i) {
            int d = w & 31;
            int n = w >>> 5 & 31;
            long target = codeTarget(i, Fixes.ADD);
            boolean makesStart = target >= 0 && codes[n] == PAGE && x[n] == target;
            if (makesStart) {
                x[d] = target;
                codes[d] = START;
                return;
            }
            if (target >= 0 || codes[n] != NUMBER) {
                outcome = STOPPED;
                return;
            }
            long number = (long) Code.numberOf(w) << ((w & 1 << 22) != 0 ? 12 : 0);
            long value = sum(x[n], number, w);
            if (d == SP && (w & 1 << 29) == 0) {
                x[SP] = w < 0 ? value : value & 0xFFFFFFFFL;
                codes[SP] = NUMBER;
            } else {
                setNumber(d, value, w);
            }
        }

        private void add(int w) {
            int n = w >>> 5 & 31;
            int m = w >>> 16 & 31;
            if (isCode(n) || isCode(m)) {
                outcome = STOPPED;
                return;
            }
            long second = Code.shifted(numberIn(m), w >>> 22 & 3, w >>> 10 & 63, w < 0);
            setNumber(w & 31, sum(numberIn(n), second, w), w);
        }

        /** Words are counted in the upper half of a long, where they carry and overflow as longs do. */
        private long sum(long first, long second, int w) {
            long a = w < 0 ? first : first << 32;
            long b = w < 0 ? second : second << 32;
            boolean minus = (w & 1 << 30) != 0;
            long r = minus ? a - b : a + b;
            if ((w & 1 << 29) != 0) {
                boolean carry = minus ? !Code.below(a, b) : Code.below(r, a);
                long over = minus ? (a ^ b) & (a ^ r) : ~(a ^ b) & (a ^ r);
                setFlags(r, carry, over < 0);
            }
            return w < 0 ? r : r >>> 32;
        }

        private void setFlags(long r, boolean carry, boolean over) {
            flags = (r < 0 ? 8 : 0) | (r == 0 ? 4 : 0) | (carry ? 2 : 0) | (over ? 1 : 0);
        }

        private void and(int w) {
            int n = w >>> 5 & 31;
            int m = w >>> 16 & 31;
            if (isCode(n) || isCode(m)) {
                // Long, or, n 31, by 0, not turned over: a move.
                boolean moves = (w & 0xFF20FFE0) == 0xAA0003E0 && codes[m] != PAGE;
                if (moves) {
                    setValue(w & 31, x[m], codes[m]);
                } else {
                    outcome = STOPPED;
                }
                return;
            }
            long a = numberIn(n);
            long b = Code.shifted(numberIn(m), w >>> 22 & 3, w >>> 10 & 63, w < 0);
            b = (w & 1 << 21) != 0 ? ~b : b;
            int how = w >>> 29 & 3;
            long r = how == 1 ? a | b : how == 2 ? a ^ b : a & b;
            if (how == 3) {
                setFlags(w < 0 ? r : r << 32, false, false);
            }
            setNumber(w & 31, r, w);
        }

        private void move(int w) {
            int d = w & 31;
            int shift = 16 * (w >>> 21 & 3);
            long part = (w >>> 5 & 0xFFFFL) << shift;
            int how = w >>> 29 & 3;
            if (how == 3) {
                if (isCode(d)) {
                    outcome = STOPPED;
                    return;
                }
                part |= numberIn(d) & ~(0xFFFFL << shift);
            }
            setNumber(d, how == 0 ? ~part : part, w);
        }

        private void multiply(int w) {
            int n = w >>> 5 & 31;
            int m = w >>> 16 & 31;
            int a = w >>> 10 & 31;
            if (isCode(n) || isCode(m) || isCode(a)) {
                outcome = STOPPED;
                return;
            }
            long product = numberIn(n) * numberIn(m);
            setNumber(w & 31, numberIn(a) + ((w & 1 << 15) != 0 ? -product : product), w);
        }

        private void divideOrShift(int w) {
            int n = w >>> 5 & 31;
            int m = w >>> 16 & 31;
            if (isCode(n) || isCode(m)) {
                outcome = STOPPED;
                return;
            }
            int how = w >>> 10 & 63;
            long a = numberIn(n);
            long b = numberIn(m);
            long r;
            if (how == 2) {
                r = w < 0 ? Code.dividedUnsigned(a, b) : Code.dividedUnsigned(a & 0xFFFFFFFFL, b & 0xFFFFFFFFL);
            } else if (how == 3) {
                r = w < 0 ? Code.dividedSigned(a, b) : Code.dividedSigned((int) a, (int) b);
            } else {
                r = Code.shifted(a, how - 8, (int) b & (w < 0 ? 63 : 31), w < 0);
            }
            setNumber(w & 31, r, w);
        }

        private void choose(int w) {
            boolean first = Code.holds(w >>> 12 & 15, flags);
            int chosen = first ? w >>> 5 & 31 : w >>> 16 & 31;
            boolean counts = (w & 1 << 10) != 0;
            if (isCode(chosen)) {
                if (counts || w >= 0 || codes[chosen] == PAGE) {
                    outcome = STOPPED;
                } else {
                    setValue(w & 31, x[chosen], codes[chosen]);
                }
                return;
            }
            setNumber(w & 31, numberIn(chosen) + (counts && !first ? 1 : 0), w);
        }

        private void loadOrStore(int w, boolean byNumber) {
            int d = w & 31;
            int n = w >>> 5 & 31;
            int m = w >>> 16 & 31;
            int width = w >>> 30;
            int many = 1 << width;
            int how = w >>> 22 & 3;
            if (codes[n] != NUMBER || !byNumber && isCode(m)) {
                outcome = STOPPED;
                return;
            }
            long more = byNumber ? (long) Code.numberOf(w) << width
                : numberIn(m) << ((w & 1 << 12) != 0 ? width : 0);
            long address = x[n] + more;
            if (stops(address, many, how == 0, d)) {
                outcome = STOPPED;
            } else if (faults(address, many, how == 0)) {
                outcome = FAULT;
            } else if (how == 0) {
                put(address, many, d);
            } else {
                get(address, many, d, how == 2);
            }
        }

        private void pair(int w) {
            int d = w & 31;
            int n = w >>> 5 & 31;
            int a = w >>> 10 & 31;
            int how = w >>> 23 & 3;
            boolean stores = (w & 1 << 22) == 0;
            if (codes[n] != NUMBER) {
                outcome = STOPPED;
                return;
            }
            long changed = x[n] + 8L * (w << 10 >> 25);
            long address = how == 1 ? x[n] : changed;
            if (stops(address, 8, stores, d) || stops(address + 8, 8, stores, a)) {
                outcome = STOPPED;
                return;
            }
            if (faults(address, 8, stores) || faults(address + 8, 8, stores)) {
                outcome = FAULT;
                return;
            }
            if (stores) {
                put(address, 8, d);
                put(address + 8, 8, a);
            } else {
                get(address, 8, d, false);
                get(address + 8, 8, a, false);
            }
            if (how != 2) {
                x[n] = changed;
            }
        }

        private boolean stops(long address, int many, boolean stores, int d) {
            if (!ofBlocks) {
                return false;
            }
            boolean whole = many == 8 && (address & 7) == 0;
            if (liesInText(address, many) || !whole && memory.holdsCode(address, many)) {
                return true;
            }
            return stores && isCode(d) && (!whole || codes[d] == PAGE);
        }

        private boolean faults(long address, int many, boolean stores) {
            int spot = memory.spotOf(address, many);
            return spot < 0 || stores && !memory.mayWrite(spot);
        }

        private void put(long address, int many, int d) {
            int spot = memory.spotOf(address, many);
            memory.store(spot, many, numberIn(d));
            if (ofBlocks && many == 8 && (address & 7) == 0) {
                memory.setCode(spot, isCode(d) ? codes[d] : NUMBER);
            }
        }

        private void get(long address, int many, int d, boolean signed) {
            int spot = memory.spotOf(address, many);
            long value = memory.load(spot, many);
            boolean whole = many == 8 && (address & 7) == 0;
            setValue(d, signed ? (int) value : value, whole ? memory.codeAt(spot) : NUMBER);
        }

        private void callOut() {
            if (isCode(0) || isCode(1) || isCode(2) || isCode(8)) {
                outcome = STOPPED;
                return;
            }
            boolean tells = x[8] == 64 && x[2] >= 0 && x[2] <= TEXT_MOST;
            int many = tells ? (int) x[2] : 0;
            if (many > 0) {
                if (ofBlocks && (liesInText(x[1], many) || memory.holdsCode(x[1], many))) {
                    outcome = STOPPED;
                    return;
                }
                if (memory.spotOf(x[1], many) < 0) {
                    outcome = FAULT;
                    return;
                }
            }
            keepTrace();
            if (x[8] == 93) {
                outcome = ENDED;
                return;
            }
            keepText(many);
            x[0] = tells ? x[2] : -38;
        }

        private void keepTrace() {
            if (callsDone < TRACED_MOST) {
                int at = 4 * callsDone;
                traces[at] = x[8];
                traces[at + 1] = x[0];
                traces[at + 2] = x[1];
                traces[at + 3] = x[2];
            }
            callsDone++;
        }

        private void keepText(int many) {
            int spot = memory.spotOf(x[1], many);
            for (int i = 0; i < many && bytesTold + i < TOLD_MOST; i++) {
                told[bytesTold + i] = (byte) memory.load(spot + i, 1);
            }
            bytesTold += many;
        }

        long valueOf(int k) {
            return k < 0 || k > SP || codes[k] == PAGE ? 0 : x[k];
        }

        int codeOf(int k) {
            return k < 0 || k > SP ? -1 : codes[k];
        }

        int blockVisited(int k) {
            return k >= 0 && k < visits && k < visited.length ? visited[k] : -1;
        }

        long traced(int k, int what) {
            boolean has = k >= 0 && k < callsDone && k < TRACED_MOST && what >= 0 && what <= 3;
            return has ? traces[4 * k + what] : 0;
        }

        int byteTold(int i) {
            return i >= 0 && i < bytesTold && i < TOLD_MOST ? told[i] & 255 : -1;
        }
    }
}
