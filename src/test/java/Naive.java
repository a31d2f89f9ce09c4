import java.util.ArrayList;
import java.util.List;
import java.util.Map;
import java.util.TreeMap;

/** Orders and places blocks as the document's words 4 and 5 say it, slowly, from what an object tells of its blocks. */
final class Naive {
    record Way(int u, int v) implements Comparable<Way> {
        @Override
        public int compareTo(Way other) {
            return u != other.u ? Integer.compare(u, other.u) : Integer.compare(v, other.v);
        }
    }

    final Map<Way, Long> ways = new TreeMap<>();
    final Map<Way, Long> calls = new TreeMap<>();
    final List<Integer> hotRow = new ArrayList<>();
    final List<Integer> coldRow = new ArrayList<>();
    final long[] weightLaid;
    final long[] start;
    final boolean[] isLong;
    int turned;
    int left;
    int put;
    int longs;
    private final CodeLayout x;
    private final int blocks;
    private final int functions;

    Naive(CodeLayout of) {
        x = of;
        blocks = x.count(1);
        functions = x.count(0);
        weightLaid = new long[functions];
        start = new long[blocks];
        isLong = new boolean[blocks];
    }

    long count(int b) {
        long in = 0;
        long out = 0;
        long called = 0;
        for (Map.Entry<Way, Long> e : ways.entrySet()) {
            in += e.getKey().v == b ? e.getValue() : 0;
            out += e.getKey().u == b ? e.getValue() : 0;
        }
        for (Map.Entry<Way, Long> e : calls.entrySet()) {
            called += e.getKey().u == b ? e.getValue() : 0;
            in += x.function(e.getKey().v, 2) == b ? e.getValue() : 0;
        }
        return Math.max(in, Math.max(out, called));
    }

    boolean hot(int b) {
        return count(b) > 0;
    }

    boolean falls(int u, int v) {
        switch ((int) x.block(u, 3)) {
            case 0:
            case 4:
            case 5:
                return v == x.block(u, 4);
            case 3:
                return v == x.block(u, 4) || v == x.block(u, 5);
            case 1:
                return v == x.block(u, 5) && x.block(u, 1) > 1 && v != u + 1;
            default:
                return false;
        }
    }

    long weigh(List<Integer> row) {
        long sum = 0;
        for (int i = 0; i + 1 < row.size(); i++) {
            if (falls(row.get(i), row.get(i + 1))) {
                sum += ways.getOrDefault(new Way(row.get(i), row.get(i + 1)), 0L);
            }
        }
        return sum;
    }

    List<Integer> blocksOf(int f) {
        List<Integer> all = new ArrayList<>();
        for (int b = 0; b < blocks; b++) {
            if (x.block(b, 2) == f) {
                all.add(b);
            }
        }
        return all;
    }

    private List<Integer> rowOf(int f) {
        List<Integer> hotOnes = new ArrayList<>();
        for (int b : blocksOf(f)) {
            if (hot(b)) {
                hotOnes.add(b);
            }
        }
        List<List<Integer>> chains = new ArrayList<>();
        for (int b : hotOnes) {
            chains.add(new ArrayList<>(List.of(b)));
        }
        List<Way> falling = new ArrayList<>();
        for (Way w : ways.keySet()) {
            if (x.block(w.u, 2) == f && falls(w.u, w.v)) {
                falling.add(w);
            }
        }
        falling.sort((a, b) -> {
            int byCount = Long.compare(ways.get(b), ways.get(a));
            return byCount != 0 ? byCount : a.compareTo(b);
        });
        for (Way w : falling) {
            List<Integer> a = chainOf(chains, w.u);
            List<Integer> b = chainOf(chains, w.v);
            if (a != b && a.get(a.size() - 1) == w.u && b.get(0) == w.v && x.function(f, 2) != w.v) {
                a.addAll(b);
                chains.remove(b);
            }
        }
        List<Integer> row = place(f, chains);
        return weigh(row) > weigh(hotOnes) ? row : hotOnes;
    }

    private static List<Integer> chainOf(List<List<Integer>> chains, int b) {
        for (List<Integer> chain : chains) {
            if (chain.contains(b)) {
                return chain;
            }
        }
        return null;
    }

    private static int least(List<Integer> chain) {
        int min = Integer.MAX_VALUE;
        for (int b : chain) {
            min = Math.min(min, b);
        }
        return min;
    }

    private List<Integer> place(int f, List<List<Integer>> chains) {
        List<Integer> row = new ArrayList<>();
        while (!chains.isEmpty()) {
            List<Integer> best = null;
            long bestSum = -1;
            for (List<Integer> chain : chains) {
                long sum = 0;
                for (Map.Entry<Way, Long> e : ways.entrySet()) {
                    int u = e.getKey().u;
                    int v = e.getKey().v;
                    if (chain.contains(u) && row.contains(v) || chain.contains(v) && row.contains(u)) {
                        sum += e.getValue();
                    }
                }
                if (row.isEmpty()) {
                    sum = chain.contains((int) x.function(f, 2)) ? 1 : 0;
                }
                if (best == null || sum > bestSum || sum == bestSum && least(chain) < least(best)) {
                    best = chain;
                    bestSum = sum;
                }
            }
            row.addAll(best);
            chains.remove(best);
        }
        return row;
    }

    private long heat(int f) {
        long sum = 0;
        for (Map.Entry<Way, Long> e : calls.entrySet()) {
            sum += e.getKey().v == f ? e.getValue() : 0;
        }
        return sum;
    }

    private long heat(List<Integer> cluster) {
        long sum = 0;
        for (int f : cluster) {
            sum += heat(f);
        }
        return sum;
    }

    private long bytes(List<Integer> cluster) {
        long sum = 0;
        for (int f : cluster) {
            for (int b : blocksOf(f)) {
                sum += hot(b) ? 4 * x.block(b, 1) : 0;
            }
        }
        return sum;
    }

    private int caller(int f) {
        long[] from = new long[functions];
        for (Map.Entry<Way, Long> e : calls.entrySet()) {
            if (e.getKey().v == f) {
                from[(int) x.block(e.getKey().u, 2)] += e.getValue();
            }
        }
        int best = -1;
        for (int g = 0; g < functions; g++) {
            if (g != f && from[g] > 0 && (best < 0 || from[g] > from[best])) {
                best = g;
            }
        }
        return best;
    }

    void order(int page) {
        List<List<Integer>> clusters = new ArrayList<>();
        List<Integer> hotFunctions = new ArrayList<>();
        for (int f = 0; f < functions; f++) {
            if (bytes(List.of(f)) > 0) {
                clusters.add(new ArrayList<>(List.of(f)));
                hotFunctions.add(f);
            }
        }
        hotFunctions.sort((a, b) -> heat(a) != heat(b) ? Long.compare(heat(b), heat(a)) : Integer.compare(a, b));
        for (int f : hotFunctions) {
            int g = caller(f);
            List<Integer> mine = chainOf(clusters, f);
            List<Integer> other = g < 0 ? mine : chainOf(clusters, g);
            if (other != mine && bytes(mine) + bytes(other) <= page) {
                other.addAll(mine);
                clusters.remove(mine);
            }
        }
        clusters.sort((a, b) -> {
            int byHeat = Long.compare(heat(b) * bytes(a), heat(a) * bytes(b));
            return byHeat != 0 ? byHeat : Integer.compare(least(a), least(b));
        });
        for (List<Integer> cluster : clusters) {
            for (int f : cluster) {
                List<Integer> row = rowOf(f);
                weightLaid[f] = weigh(row);
                hotRow.addAll(row);
            }
        }
        for (int b = 0; b < blocks; b++) {
            if (!hot(b)) {
                coldRow.add(b);
            }
        }
    }

    /** Places the blocks; kinds tells of each block with a conditional END how many bits its distance has. */
    long write(int apart, int[] bits) {
        long base = x.function(0, 0);
        long end;
        boolean more;
        do {
            end = base;
            for (int b : hotRow) {
                start[b] = end;
                end += 4 * length(b, behind(b));
            }
            if (!coldRow.isEmpty()) {
                end = (end + apart - 1) / apart * apart;
            }
            for (int b : coldRow) {
                start[b] = end;
                end += 4 * length(b, behind(b));
            }
            more = lengthen(bits);
        } while (more);
        for (int b = 0; b < blocks; b++) {
            longs += isLong[b] ? 1 : 0;
            put += putsB(b, behind(b)) ? 1 : 0;
            left += leaves(b, behind(b)) ? 1 : 0;
            turned += turns(b, behind(b)) ? 1 : 0;
        }
        return end - base;
    }

    int behind(int b) {
        List<Integer> row = hotRow.contains(b) ? hotRow : coldRow;
        int k = row.indexOf(b);
        return k + 1 < row.size() ? row.get(k + 1) : -1;
    }

    boolean putsB(int b, int behind) {
        long end = x.block(b, 3);
        boolean goesOn = end == 0 || end == 4 || end == 5;
        return goesOn && x.block(b, 4) != behind
            || end == 3 && x.block(b, 4) != behind && x.block(b, 5) != behind;
    }

    boolean leaves(int b, int behind) {
        return x.block(b, 3) == 1 && x.block(b, 5) == behind && x.block(b, 1) > 1 && behind != b + 1;
    }

    boolean turns(int b, int behind) {
        return x.block(b, 3) == 3 && x.block(b, 4) != behind && x.block(b, 5) == behind;
    }

    private long length(int b, int behind) {
        return x.block(b, 1) + (putsB(b, behind) ? 1 : 0) - (leaves(b, behind) ? 1 : 0) + (isLong[b] ? 1 : 0);
    }

    private boolean lengthen(int[] bits) {
        boolean more = false;
        for (int b = 0; b < blocks; b++) {
            if (x.block(b, 3) == 3 && !isLong[b]) {
                int to = (int) (turns(b, behind(b)) ? x.block(b, 4) : x.block(b, 5));
                long distance = (start[to] - (start[b] + 4 * x.block(b, 1) - 4)) / 4;
                long half = 1L << bits[b] - 1;
                if (distance < -half || distance >= half) {
                    isLong[b] = true;
                    more = true;
                }
            }
        }
        return more;
    }

    /** The bytes of function f where its first block is. */
    long newSize(int f) {
        List<Integer> mine = blocksOf(f);
        boolean inHot = hotRow.contains(mine.get(0));
        long sum = 0;
        for (int b : mine) {
            sum += hotRow.contains(b) == inHot ? 4 * length(b, behind(b)) : 0;
        }
        return sum;
    }
}
