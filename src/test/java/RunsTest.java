import java.util.Random;

/** Runs of 512 calls, chosen by fixed seeds, with the model's answers due: all promises together. */
public final class RunsTest {
    private static final Due DUE = new Due("RunsTest");
    private static final int RUNS = 400;
    private static final int CALLS = 512;
    private static final int KINDS = 25;

    private final Random chance;
    private final DrawStreams x = new DrawStreams();
    private final Model y = new Model();
    private String call;
    private String args;

    private RunsTest(long seed) {
        chance = new Random(seed);
    }

    public static void main(String[] args) {
        for (int run = 0; run < RUNS && !DUE.anyWrong(); run++) {
            RunsTest one = new RunsTest(run);
            one.begin(run);
            for (int i = 3; i < CALLS && !DUE.anyWrong(); i++) {
                one.step(run, i);
            }
        }
        DUE.end();
    }

    // Runs begin with a key and two drawers, but for some that meet the object new.
    private void begin(int run) {
        if (run % 10 != 0) {
            x.key(run);
            y.key(run);
            for (int d = 0; d < 2; d++) {
                x.drawer(0, d);
                y.drawer(0, d);
            }
        }
    }

    private void step(int run, int i) {
        args = "";
        int kind = chance.nextInt(KINDS);
        String got;
        String want;
        long seed = chance.nextLong();
        chance.setSeed(seed);
        got = answer(kind, true);
        chance.setSeed(seed);
        args = "";
        want = answer(kind, false);
        DUE.holds("run " + run + ", call " + i + ": " + call + "(" + args + ") answered " + got + ", due is " + want + "; this", got.equals(want));
    }

    private String answer(int kind, boolean ofClass) {
        try {
            return kind < 9 ? early(kind, ofClass) : kind < 17 ? drawn(kind, ofClass) : late(kind, ofClass);
        } catch (ArithmeticException | ArrayIndexOutOfBoundsException e) {
            return "throws." + Due.nameOf(e);
        }
    }

    private String early(int kind, boolean c) {
        switch (kind) {
            case 0: { call = "key"; long k = bits(); return "" + (c ? x.key(k) : y.key(k)); }
            case 1: { call = "split"; int k = key(); int p = any(); return "" + (c ? x.split(k, p) : y.split(k, p)); }
            case 2: { call = "bitsOf"; int k = key(); return "" + (c ? x.bitsOf(k) : y.bitsOf(k)); }
            case 3: { call = "word"; int k = key(); int s = stream(); long i = place(); return "" + (c ? x.word(k, s, i) : y.word(k, s, i)); }
            case 4: { call = "drawer"; int k = key(); int s = stream(); return "" + (c ? x.drawer(k, s) : y.drawer(k, s)); }
            case 5: { call = "place"; int d = drawer(); long p = place(); return "" + (c ? x.place(d, p) : y.place(d, p)); }
            case 6: { call = "told"; int d = drawer(); int w = from(-1, 4); return "" + (c ? x.told(d, w) : y.told(d, w)); }
            case 7: { call = "same"; int d = drawer(); int e = drawer(); return "" + (c ? x.same(d, e) : y.same(d, e)); }
            default: { call = "count"; int w = from(-1, 3); return "" + (c ? x.count(w) : y.count(w)); }
        }
    }

    private String drawn(int kind, boolean c) {
        switch (kind) {
            case 9: { call = "bits"; int d = drawer(); int n = from(-1, 65); return "" + (c ? x.bits(d, n) : y.bits(d, n)); }
            case 10: { call = "below"; int d = drawer(); long s = span(); return "" + (c ? x.below(d, s) : y.below(d, s)); }
            case 11: { call = "real"; int d = drawer(); return "" + (c ? x.real(d) : y.real(d)); }
            case 12: { call = "single"; int d = drawer(); return "" + (c ? x.single(d) : y.single(d)); }
            case 13: { call = "coin"; int d = drawer(); int down = down(); int up = up(d, down); return "" + (c ? x.coin(d, up, down) : y.coin(d, up, down)); }
            case 14: { call = "misses"; int d = drawer(); int down = down(); int up = up(d, down); int n = coins(); return "" + (c ? x.misses(d, up, down, n) : y.misses(d, up, down, n)); }
            case 15: { call = "hits"; int d = drawer(); int down = down(); int up = up(d, down); int n = coins(); return "" + (c ? x.hits(d, up, down, n) : y.hits(d, up, down, n)); }
            default: { call = "mask"; int d = drawer(); int down = down(); int up = up(d, down); int n = from(-1, 66); return "" + (c ? x.mask(d, up, down, n) : y.mask(d, up, down, n)); }
        }
    }

    private String late(int kind, boolean c) {
        switch (kind) {
            case 17: { call = "normal"; int d = drawer(); return "" + (c ? x.normal(d) : y.normal(d)); }
            case 18: { call = "permutation"; int d = drawer(); int n = rowSize(); return "" + (c ? x.permutation(d, n) : y.permutation(d, n)); }
            case 19: { call = "subset"; int d = drawer(); int n = setSpan(); int m = rowSize(); return "" + (c ? x.subset(d, n, m) : y.subset(d, n, m)); }
            case 20: { call = "at"; int i = from(-1, y.count(2)); return "" + (c ? x.at(i) : y.at(i)); }
            case 21: { call = "weight"; int i = from(-1, 32); long w = weight(); return "" + (c ? x.weight(i, w) : y.weight(i, w)); }
            case 22: { call = "choose"; int d = drawer(); return "" + (c ? x.choose(d) : y.choose(d)); }
            case 23: { call = "secret"; int k = key(); int s = stream(); int n = ordered(); int i = from(-1, n); return "" + (c ? x.secret(k, s, n, i) : y.secret(k, s, n, i)); }
            default: { call = "back"; int k = key(); int s = stream(); int n = from(-1, 100); int p = from(-1, n); return "" + (c ? x.back(k, s, n, p) : y.back(k, s, n, p)); }
        }
    }

    private int told(int value) {
        args = args.isEmpty() ? "" + value : args + ", " + value;
        return value;
    }

    private long told(long value) {
        args = args.isEmpty() ? "" + value : args + ", " + value;
        return value;
    }

    private boolean oneIn(int n) {
        return chance.nextInt(n) == 0;
    }

    private int between(int least, int most) {
        return most <= least ? least : (int) (least + Math.floorMod(chance.nextLong(), (long) most - least + 1));
    }

    private int from(int least, int most) {
        return told(between(least, most));
    }

    private int any() {
        return told(oneIn(2) ? chance.nextInt() : between(-3, 3));
    }

    private long bits() {
        return told(oneIn(2) ? chance.nextLong() : between(-2, 2));
    }

    private int key() {
        return told(oneIn(12) ? between(-2, 16) : between(0, Math.max(0, y.count(0) - 1)));
    }

    private int drawer() {
        return told(oneIn(12) ? between(-2, 12) : between(0, Math.max(0, y.count(1) - 1)));
    }

    private int stream() {
        return told(oneIn(10) ? new int[] {-1, Integer.MIN_VALUE, Integer.MAX_VALUE}[chance.nextInt(3)] : between(0, 3));
    }

    private long place() {
        long[] edges = {0, -1, 1L << 61, (1L << 61) + 1, (1L << 61) - 1, Long.MAX_VALUE, Long.MIN_VALUE, 17179869183L};
        return told(oneIn(3) ? edges[chance.nextInt(edges.length)] : oneIn(2) ? chance.nextInt(20) : chance.nextLong() >>> between(1, 60));
    }

    private long span() {
        if (oneIn(3)) {
            return told(between(-1, 10));
        }
        return told(oneIn(2) ? (1L << between(0, 62)) + between(-2, 2) : chance.nextLong() >>> between(0, 62));
    }

    private int down() {
        if (oneIn(4)) {
            return told(between(-1, 3));
        }
        return told(oneIn(3) ? 1 << 30 : oneIn(2) ? Integer.MAX_VALUE - between(0, 3) : 1 + chance.nextInt(Integer.MAX_VALUE));
    }

    // One in three is fit to the word that comes next, so that coins meet ties.
    private int up(int d, int down) {
        if (down > 3 && oneIn(3) && y.told(d, 0) >= 0) {
            long word = y.word((int) y.told(d, 2), (int) y.told(d, 3), y.told(d, 0));
            return told((int) Math.min(down, Math.ceil(word / 4294967296.0 * down)));
        }
        return told(oneIn(4) ? between(-1, 2) : oneIn(4) ? down : down > 0 ? chance.nextInt(down) : between(-2, 2));
    }

    private int coins() {
        return told(oneIn(10) ? new int[] {-1, 0, 1000, 1001}[chance.nextInt(4)] : between(0, 40));
    }

    private int rowSize() {
        return told(oneIn(5) ? new int[] {-1, 0, 1, 199, 200, 201}[chance.nextInt(6)] : between(0, 30));
    }

    private int setSpan() {
        return told(oneIn(5) ? new int[] {-1, 0, 1, 200, 999999, 1000000, 1000001}[chance.nextInt(7)] : between(0, 60));
    }

    private long weight() {
        return told(oneIn(5) ? new long[] {-1, 0, 1000000000000L, 1000000000001L, Long.MAX_VALUE}[chance.nextInt(5)] : between(0, 9));
    }

    private int ordered() {
        int[] edges = {-1, 0, 1, 4, 5, 16, 17, 268435457, 1073741823, 1073741824, 1073741825, Integer.MAX_VALUE - 1};
        return told(oneIn(2) ? edges[chance.nextInt(edges.length)] : 1 + chance.nextInt(1 << between(1, 30)));
    }
}
