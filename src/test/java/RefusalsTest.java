/**
 * "REFUSALS change nothing; of several the first told: BAD, FULL": each refused call, on an object that
 * holds a little and on one that is full, answers as told and leaves all that can be read as it was.
 */
public final class RefusalsTest {
    private static final Due DUE = new Due("RefusalsTest");
    private static final int LEAST = Integer.MIN_VALUE;
    private static final int MOST = Integer.MAX_VALUE;
    private static final String BAD = "-1";
    private static final String FULL = "-2";
    private static final String NONE = "-3";
    private static final String OUT = "throws.ArrayIndexOutOfBoundsException";

    private interface Call {
        Object on(DrawStreams x);
    }

    public static void main(String[] args) {
        DUE.sentence("REFUSALS change nothing");
        noSuchKey();
        noSuchDrawer();
        keysAndDrawers();
        draws();
        coins();
        rows();
        weights();
        orders();
        DUE.sentence("of several the first told: BAD (no such KEY, DRAWER, a number out of its bounds), FULL");
        firstTold();
        DUE.end();
    }

    /** Two keys, two drawers on their way, a row of six, two weights. */
    private static DrawStreams little() {
        DrawStreams x = new DrawStreams();
        x.key(11);
        x.key(-5);
        x.drawer(0, 3);
        x.drawer(1, MOST);
        x.permutation(0, 6);
        x.bits(1, 64);
        x.weight(3, 7);
        x.weight(31, 1);
        return x;
    }

    private static DrawStreams full() {
        DrawStreams x = little();
        for (int i = 2; i < 16; i++) {
            x.key(1000 + i);
        }
        for (int i = 2; i < 12; i++) {
            x.drawer(i, i);
        }
        return x;
    }

    /** All that can be read of an object. */
    private static String all(DrawStreams x) {
        StringBuilder s = new StringBuilder();
        s.append(x.count(0)).append(' ').append(x.count(1)).append(' ').append(x.count(2));
        for (int k = 0; k < x.count(0); k++) {
            s.append(" k").append(x.bitsOf(k));
        }
        for (int d = 0; d < x.count(1); d++) {
            for (int what = 0; what < 4; what++) {
                s.append(" d").append(x.told(d, what));
            }
        }
        for (int i = 0; i < x.count(2); i++) {
            s.append(" r").append(x.at(i));
        }
        for (int i = 0; i < 32; i++) {
            long w = x.weight(i, 0);
            x.weight(i, w);
            s.append(" w").append(w);
        }
        return s.toString();
    }

    private static void refused(String name, String want, Call call) {
        refusedBy(little(), name, want, call);
        refusedBy(full(), name + ", full", want, call);
    }

    private static void refusedBy(DrawStreams x, String name, String want, Call call) {
        String before = all(x);
        String got;
        try {
            got = "" + call.on(x);
        } catch (RuntimeException e) {
            got = "throws." + Due.nameOf(e);
        }
        DUE.isText(name, got, want);
        DUE.isText("what stands behind " + name, all(x), before);
        DUE.is("the next word behind " + name, x.bits(1, 32), x.word(1, MOST, 2));
    }

    private static void noSuchKey() {
        int[] none = {-1, 16, LEAST, MOST};
        for (int k : none) {
            refused("split(" + k + ", 1)", BAD, x -> x.split(k, 1));
            refused("bitsOf(" + k + ")", BAD, x -> x.bitsOf(k));
            refused("word(" + k + ", 0, 0)", BAD, x -> x.word(k, 0, 0));
            refused("drawer(" + k + ", 0)", BAD, x -> x.drawer(k, 0));
            refused("secret(" + k + ", 0, 10, 0)", BAD, x -> x.secret(k, 0, 10, 0));
            refused("back(" + k + ", 0, 10, 0)", BAD, x -> x.back(k, 0, 10, 0));
        }
    }

    private static void noSuchDrawer() {
        int[] none = {-1, 12, LEAST, MOST};
        for (int d : none) {
            refused("place(" + d + ", 0)", BAD, x -> x.place(d, 0));
            refused("told(" + d + ", 0)", BAD, x -> x.told(d, 0));
            refused("same(" + d + ", 0)", "false", x -> x.same(d, 0));
            refused("same(0, " + d + ")", "false", x -> x.same(0, d));
            refused("same(" + d + ", " + d + ")", "false", x -> x.same(d, d));
            refused("bits(" + d + ", 8)", BAD, x -> x.bits(d, 8));
            refused("below(" + d + ", 8)", BAD, x -> x.below(d, 8));
            refused("real(" + d + ")", "-1.0", x -> x.real(d));
            refused("single(" + d + ")", "-1.0", x -> x.single(d));
            refused("coin(" + d + ", 1, 2)", BAD, x -> x.coin(d, 1, 2));
            refused("misses(" + d + ", 1, 2, 3)", BAD, x -> x.misses(d, 1, 2, 3));
            refused("hits(" + d + ", 1, 2, 3)", BAD, x -> x.hits(d, 1, 2, 3));
            refused("mask(" + d + ", 1, 1, 3)", "0", x -> x.mask(d, 1, 1, 3));
            refused("normal(" + d + ")", "0", x -> x.normal(d));
            refused("permutation(" + d + ", 3)", BAD, x -> x.permutation(d, 3));
            refused("subset(" + d + ", 9, 3)", BAD, x -> x.subset(d, 9, 3));
            refused("choose(" + d + ")", BAD, x -> x.choose(d));
        }
    }

    private static void keysAndDrawers() {
        refusedBy(full(), "key(5), full", FULL, x -> x.key(5));
        refusedBy(full(), "split(0, 5), full", FULL, x -> x.split(0, 5));
        refusedBy(full(), "drawer(0, 5), full", FULL, x -> x.drawer(0, 5));
        refusedBy(little(), "bitsOf(2)", BAD, x -> x.bitsOf(2));
        refusedBy(little(), "drawer(2, 0)", BAD, x -> x.drawer(2, 0));
        refusedBy(little(), "split(2, 0)", BAD, x -> x.split(2, 0));
        refused("word(0, -1, 0)", BAD, x -> x.word(0, -1, 0));
        refused("word(0, 0, -1)", BAD, x -> x.word(0, 0, -1));
        refused("drawer(0, -1)", BAD, x -> x.drawer(0, -1));
        refused("place(0, -1)", BAD, x -> x.place(0, -1));
        refused("place(0, 2 to the 61 and 1)", BAD, x -> x.place(0, 2305843009213693953L));
        refused("told(0, 4)", BAD, x -> x.told(0, 4));
        refused("told(0, -1)", BAD, x -> x.told(0, -1));
        refused("count(3)", BAD, x -> x.count(3));
        refused("count(-1)", BAD, x -> x.count(-1));
    }

    private static void draws() {
        refused("bits(0, -1)", BAD, x -> x.bits(0, -1));
        refused("bits(0, 65)", BAD, x -> x.bits(0, 65));
        refused("below(0, -1)", BAD, x -> x.below(0, -1));
        refused("below(0, least)", BAD, x -> x.below(0, Long.MIN_VALUE));
        refused("below(0, 0)", "throws.ArithmeticException", x -> x.below(0, 0));
        refusedBy(little(), "bits(2, 1)", BAD, x -> x.bits(2, 1));
        refusedBy(little(), "normal(2)", "0", x -> x.normal(2));
    }

    private static void coins() {
        int[][] wrong = {{0, 0}, {1, 0}, {-1, 1}, {2, 1}, {-1, -1}, {LEAST, LEAST}, {MOST, MOST - 1}};
        for (int[] w : wrong) {
            String chance = w[0] + ", " + w[1];
            refused("coin(0, " + chance + ")", BAD, x -> x.coin(0, w[0], w[1]));
            refused("misses(0, " + chance + ", 3)", BAD, x -> x.misses(0, w[0], w[1], 3));
            refused("hits(0, " + chance + ", 3)", BAD, x -> x.hits(0, w[0], w[1], 3));
            refused("mask(0, " + chance + ", 3)", "0", x -> x.mask(0, w[0], w[1], 3));
        }
        int[] counts = {-1, 1001, LEAST, MOST};
        for (int n : counts) {
            refused("misses(0, 1, 2, " + n + ")", BAD, x -> x.misses(0, 1, 2, n));
            refused("hits(0, 1, 2, " + n + ")", BAD, x -> x.hits(0, 1, 2, n));
            refused("mask(0, 1, 2, " + n + ")", "0", x -> x.mask(0, 1, 2, n));
        }
        refused("mask(0, 1, 2, 0)", "0", x -> x.mask(0, 1, 2, 0));
        refused("mask(0, 1, 2, 65)", "0", x -> x.mask(0, 1, 2, 65));
    }

    private static void rows() {
        int[] sizes = {-1, 201, LEAST, MOST};
        for (int n : sizes) {
            refused("permutation(0, " + n + ")", BAD, x -> x.permutation(0, n));
            refused("subset(0, 300, " + n + ")", BAD, x -> x.subset(0, 300, n));
        }
        int[][] wrong = {{-1, 0}, {-1, -1}, {1000001, 3}, {2, 3}, {0, 1}, {199, 200}, {MOST, 3}, {LEAST, 0}};
        for (int[] w : wrong) {
            refused("subset(0, " + w[0] + ", " + w[1] + ")", BAD, x -> x.subset(0, w[0], w[1]));
        }
        int[] none = {-1, 6, 200, LEAST, MOST};
        for (int i : none) {
            refused("at(" + i + ")", OUT, x -> x.at(i));
        }
    }

    private static void weights() {
        int[] none = {-1, 32, LEAST, MOST};
        for (int i : none) {
            refused("weight(" + i + ", 5)", BAD, x -> x.weight(i, 5));
        }
        long[] wrong = {-1, 1000000000001L, Long.MIN_VALUE, Long.MAX_VALUE};
        for (long w : wrong) {
            refused("weight(3, " + w + ")", BAD, x -> x.weight(3, w));
        }
        DrawStreams bare = little();
        bare.weight(3, 0);
        bare.weight(31, 0);
        refusedBy(bare, "choose(0), all weights being 0", NONE, x -> x.choose(0));
    }

    private static void orders() {
        int[][] wrong = {{0, -1, 10, 0}, {0, 0, 0, 0}, {0, 0, -1, -1}, {0, 0, 1073741825, 0}, {0, 0, 10, -1}, {0, 0, 10, 10}};
        for (int[] w : wrong) {
            String told = "(" + w[0] + ", " + w[1] + ", " + w[2] + ", " + w[3] + ")";
            refused("secret" + told, BAD, x -> x.secret(w[0], w[1], w[2], w[3]));
            refused("back" + told, BAD, x -> x.back(w[0], w[1], w[2], w[3]));
        }
    }

    /** Calls that are to be refused for two things at once. */
    private static void firstTold() {
        refusedBy(full(), "split(16, 0), full", BAD, x -> x.split(16, 0));
        refusedBy(full(), "split(-1, 0), full", BAD, x -> x.split(-1, 0));
        refusedBy(full(), "drawer(16, 0), full", BAD, x -> x.drawer(16, 0));
        refusedBy(full(), "drawer(-1, 0), full", BAD, x -> x.drawer(-1, 0));
        refusedBy(full(), "drawer(0, -1), full", BAD, x -> x.drawer(0, -1));
        refused("below(12, 0)", BAD, x -> x.below(12, 0));
        refused("below(-1, 0)", BAD, x -> x.below(-1, 0));
        DrawStreams bare = little();
        bare.weight(3, 0);
        bare.weight(31, 0);
        refusedBy(bare, "choose(2), all weights being 0", BAD, x -> x.choose(2));
    }
}
