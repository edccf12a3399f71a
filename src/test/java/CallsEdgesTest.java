/**
 * The edges that promises 1 to 26 name, sentence by sentence. What "Terms" names is in TermsEdgesTest,
 * and that refusals change nothing in RefusalsTest. The answers due were worked out by hand or by a
 * program that has nothing of this project.
 */
public final class CallsEdgesTest {
    private static final Due DUE = new Due("CallsEdgesTest");
    private static final int BAD = DrawStreams.BAD;
    private static final int FULL = DrawStreams.FULL;
    private static final int LEAST = Integer.MIN_VALUE;
    private static final int MOST = Integer.MAX_VALUE;
    private static final long TRILLION = 1000000000000L;
    /** No such key or drawer, where there is number 0 alone. */
    private static final int[] NO_SUCH = {-1, 1, 12, 16, LEAST, MOST};
    private static final String OUT = "ArrayIndexOutOfBoundsException";

    public static void main(String[] args) {
        newObject();
        key();
        split();
        bitsOf();
        word();
        drawer();
        place();
        told();
        same();
        bits();
        below();
        real();
        single();
        coin();
        misses();
        hits();
        mask();
        normal();
        permutation();
        subset();
        at();
        weight();
        choose();
        chooseFirst();
        secret();
        back();
        count();
        DUE.end();
    }

    private static void newObject() {
        DUE.sentence("1: No KEYS, DRAWERS, weights.");
        DrawStreams x = new DrawStreams();
        DUE.is("keys of a new object", x.count(0), 0);
        DUE.is("drawers of a new object", x.count(1), 0);
        DUE.is("bitsOf(0)", x.bitsOf(0), BAD);
        DUE.is("told(0, 0)", x.told(0, 0), BAD);
        for (int i = 0; i < 32; i++) {
            DUE.is("weight " + i, x.weight(i, 0), 0);
        }
    }

    /** An object with 16 keys, none of which has its number as its bits. */
    private static DrawStreams fullOfKeys() {
        DrawStreams x = new DrawStreams();
        for (int i = 0; i < 16; i++) {
            x.key(100 + i);
        }
        return x;
    }

    private static void key() {
        DUE.sentence("2: A KEY: its number. FULL.");
        DrawStreams x = new DrawStreams();
        for (int i = 0; i < 16; i++) {
            DUE.is("key " + i, x.key(-i), i);
        }
        DUE.is("key, when there are 16", x.key(99), FULL);
        DUE.is("the last key's bits", x.bitsOf(15), -15);
    }

    private static void split() {
        DUE.sentence("3: x0, the highest 32 bits, and x1 of sort 1, STREAM 0, b = part: its number.");
        int[] parts = {0, 1, MOST, LEAST, -1, -2};
        long[] bits = {1331920078262006920L, 1210456081892067844L, -1537238726690282835L, -1152683495428148717L, -1680450182562356984L, 6754703459970844148L};
        DrawStreams x = Drawn.at(0).x;
        for (int i = 0; i < parts.length; i++) {
            DUE.is("split(0, " + parts[i] + ")", x.split(0, parts[i]), i + 1);
            DUE.is("the bits of part " + parts[i], x.bitsOf(i + 1), bits[i]);
        }
        DUE.sentence("3: BAD: KEY");
        DrawStreams y = Drawn.at(0).x;
        for (int k : NO_SUCH) {
            DUE.is("split(" + k + ", 0)", y.split(k, 0), BAD);
        }
        DUE.sentence("3: FULL");
        DrawStreams z = fullOfKeys();
        DUE.is("split(0, 0), when there are 16", z.split(0, 0), FULL);
        DUE.is("split(15, -1), when there are 16", z.split(15, -1), FULL);
    }

    private static void bitsOf() {
        DUE.sentence("4: BAD (which they may be).");
        DrawStreams x = new DrawStreams();
        DUE.is("bitsOf(0) without keys", x.bitsOf(0), BAD);
        x.key(-1);
        DUE.is("bitsOf(0) of the key -1", x.bitsOf(0), -1);
        for (int k : NO_SUCH) {
            DUE.is("bitsOf(" + k + ")", Drawn.at(0).x.bitsOf(k), BAD);
        }
        DUE.is("bitsOf(16), when there are 16", fullOfKeys().bitsOf(16), BAD);
    }

    private static void word() {
        DUE.sentence("5: WORD i (0 at least) of a STREAM. BAD.");
        DrawStreams x = Drawn.at(0).x;
        DUE.is("word(0, 0, 0)", x.word(0, 0, 0), 3823634032L);
        DUE.is("word(0, 0, -1)", x.word(0, 0, -1), BAD);
        DUE.is("word(0, 0, least)", x.word(0, 0, Long.MIN_VALUE), BAD);
        DUE.is("word(0, 0, 2 to the 61 and 1): no PLACE, but a WORD", x.word(0, 0, 2305843009213693953L), 1224760636L);
        DUE.is("word(0, 0, most)", x.word(0, 0, Long.MAX_VALUE), 2211023685L);
        DUE.is("word(0, -1, 0)", x.word(0, -1, 0), BAD);
        for (int k : NO_SUCH) {
            DUE.is("word(" + k + ", 0, 0)", x.word(k, 0, 0), BAD);
        }
    }

    private static DrawStreams fullOfDrawers() {
        DrawStreams x = new DrawStreams();
        x.key(1);
        for (int i = 0; i < 12; i++) {
            x.drawer(0, i);
        }
        return x;
    }

    private static void drawer() {
        DUE.sentence("6: A DRAWER at PLACE 0: its number.");
        DrawStreams x = Drawn.at(77).x;
        DUE.is("drawer(0, 0)", x.drawer(0, 0), 1);
        DUE.is("its PLACE", x.told(1, 0), 0);
        DUE.is("its REJECTED", x.told(1, 1), 0);
        DUE.sentence("6: BAD");
        for (int k : NO_SUCH) {
            DUE.is("drawer(" + k + ", 0)", x.drawer(k, 0), BAD);
        }
        DUE.is("drawer(0, -1)", x.drawer(0, -1), BAD);
        DUE.is("drawer(0, least)", x.drawer(0, LEAST), BAD);
        DUE.sentence("6: FULL");
        DUE.is("drawer(0, 0), when there are 12", fullOfDrawers().drawer(0, 0), FULL);
        DUE.is("drawer(0, most), when there are 12", fullOfDrawers().drawer(0, MOST), FULL);
    }

    private static void place() {
        DUE.sentence("7: A DRAWER's PLACE is another one from now on: 1.");
        DrawStreams x = Drawn.at(77).x;
        x.drawer(0, 0);
        DUE.is("place(0, 77), where it is", x.place(0, 77), 1);
        DUE.is("place(0, 0)", x.place(0, 0), 1);
        DUE.is("told(0, 0)", x.told(0, 0), 0);
        DUE.is("place(1, 2 to the 61)", x.place(1, 2305843009213693952L), 1);
        DUE.is("told(1, 0)", x.told(1, 0), 2305843009213693952L);
        DUE.is("told(0, 0)", x.told(0, 0), 0);
        DUE.sentence("7: BAD.");
        DrawStreams y = Drawn.at(0).x;
        for (int d : NO_SUCH) {
            DUE.is("place(" + d + ", 0)", y.place(d, 0), BAD);
        }
        long[] wrong = {-1, 2305843009213693953L, Long.MIN_VALUE, Long.MAX_VALUE};
        for (long p : wrong) {
            DUE.is("place(0, " + p + ")", y.place(0, p), BAD);
        }
    }

    private static void told() {
        DUE.sentence("8: 0 its PLACE, 1 REJECTED, 2 its KEY, 3 its STREAM.");
        DrawStreams x = fullOfKeys();
        x.drawer(15, MOST);
        long[] all = {0, 0, 15, MOST};
        for (int what = 0; what < 4; what++) {
            DUE.is("told(0, " + what + ")", x.told(0, what), all[what]);
        }
        DrawStreams y = new DrawStreams();
        y.key(5);
        y.key(5);
        y.split(0, 0);
        for (int k = 2; k >= 0; k--) {
            y.drawer(k, 0);
            DUE.is("the KEY of a drawer of key " + k + ": its number", y.told(2 - k, 2), k);
        }
        DUE.sentence("8: BAD.");
        int[] wrong = {-1, 4, LEAST, MOST};
        for (int what : wrong) {
            DUE.is("told(0, " + what + ")", x.told(0, what), BAD);
        }
        for (int d : NO_SUCH) {
            DUE.is("told(" + d + ", 3)", x.told(d, 3), BAD);
        }
    }

    private static void same() {
        DUE.sentence("9: like KEYS (by their bits), STREAMS, PLACES.");
        DrawStreams x = Drawn.at(9).x;
        x.key(1);
        x.key(2);
        x.drawer(1, 0);
        x.drawer(2, 0);
        x.drawer(0, 1);
        for (int d = 1; d < 4; d++) {
            x.place(d, 9);
        }
        DUE.holds("same(0, 0)", x.same(0, 0));
        DUE.holds("same(0, 1), the keys being two of like bits", x.same(0, 1));
        DUE.holds("not same(0, 2), but for the key", !x.same(0, 2));
        DUE.holds("not same(0, 3), but for the stream", !x.same(0, 3));
        x.place(1, 10);
        DUE.holds("not same(0, 1), but for the place", !x.same(0, 1));
        DUE.sentence("9: False also: no such ones.");
        DrawStreams y = Drawn.at(0).x;
        for (int d : NO_SUCH) {
            DUE.holds("not same(0, " + d + ")", !y.same(0, d));
            DUE.holds("not same(" + d + ", 0)", !y.same(d, 0));
            DUE.holds("not same(" + d + ", " + d + ")", !y.same(d, d));
        }
    }

    private static void bits() {
        DUE.sentence("10: BAD: n is not 0 .. 64 (which they may be).");
        DrawStreams x = Drawn.at(0).x;
        int[] wrong = {-1, 65, LEAST, MOST};
        for (int n : wrong) {
            DUE.is("bits(0, " + n + ")", x.bits(0, n), BAD);
        }
        for (int d : NO_SUCH) {
            DUE.is("bits(" + d + ", 0)", x.bits(d, 0), BAD);
        }
        DUE.is("told(0, 0)", x.told(0, 0), 0);
        DUE.is("bits(0, 64)", x.bits(0, 64), -2024360950554292548L);
        DUE.is("bits(0, 0)", x.bits(0, 0), 0);
        Drawn ones = ones();
        DUE.is("64 bits, all 1", ones.x.bits(0, 64), -1);
        DUE.is("their words", ones.taken(), 2);
    }

    /** A drawer with two words ahead of it that are 4294967295. */
    private static Drawn ones() {
        return new Drawn(-3695638581300237213L, 673823716, 1554240229756227864L);
    }

    /** A drawer with two words ahead of it that are 0. */
    private static Drawn zeros() {
        return new Drawn(7155338483358945184L, 1421932884, 172717669933630796L);
    }

    private static void below() {
        DUE.sentence("11: BAD: DRAWER, a span below 0.");
        DrawStreams x = Drawn.at(0).x;
        for (int d : NO_SUCH) {
            DUE.is("below(" + d + ", 5)", x.below(d, 5), BAD);
        }
        DUE.is("below(0, -1)", x.below(0, -1), BAD);
        DUE.is("below(0, least)", x.below(0, Long.MIN_VALUE), BAD);
        DUE.sentence("11: ArithmeticException: the span is 0 (nothing is taken).");
        DUE.isThrown("below(0, 0)", () -> x.below(0, 0), "ArithmeticException");
        DUE.is("told(0, 0)", x.told(0, 0), 0);
        DUE.is("told(0, 1)", x.told(0, 1), 0);
        for (int d : NO_SUCH) {
            DUE.is("below(" + d + ", 0): BAD is told first", x.below(d, 0), BAD);
        }
        DUE.is("below(0, 1)", x.below(0, 1), 0);
        DUE.is("below(0, most)", x.below(0, Long.MAX_VALUE), 8211191561577629534L);
    }

    private static void real() {
        DUE.sentence("12: BITS 53, by 2 to the 53.");
        Drawn least = zeros();
        DUE.isReal("the least real", least.x.real(0), 0.0);
        DUE.is("its words", least.taken(), 2);
        Drawn most = ones();
        DUE.isReal("the greatest real", most.x.real(0), 9007199254740991.0 / 9007199254740992.0);
        DUE.is("its words", most.taken(), 2);
        DUE.sentence("12: -1.0: no such DRAWER.");
        DUE.isReal("real(0) of a new object", new DrawStreams().real(0), -1.0);
        for (int d : NO_SUCH) {
            DUE.isReal("real(" + d + ")", Drawn.at(0).x.real(d), -1.0);
        }
    }

    private static void single() {
        DUE.sentence("13: BITS 24, by 2 to the 24.");
        // Words 58 and 4294967101: 24 bits that are all 0, all 1.
        Drawn least = Drawn.at(41841907);
        DUE.isReal("the least single", least.x.single(0), 0.0);
        DUE.is("its words", least.taken(), 1);
        Drawn most = Drawn.at(25275781);
        DUE.isReal("the greatest single", most.x.single(0), 16777215.0 / 16777216.0);
        DUE.is("its words", most.taken(), 1);
        DUE.sentence("13: -1.0: no such DRAWER.");
        DUE.isReal("single(0) of a new object", new DrawStreams().single(0), -1.0);
        for (int d : NO_SUCH) {
            DUE.isReal("single(" + d + ")", Drawn.at(0).x.single(d), -1.0);
        }
    }

    /** Wrong up and down, each wrong by one thing alone. */
    private static final int[][] NO_CHANCE = {{0, 0}, {0, -1}, {-1, -1}, {0, LEAST}, {LEAST, LEAST}, {-1, 1}, {LEAST, MOST}, {2, 1}, {MOST, MOST - 1}, {MOST, 1}};

    private static void coin() {
        DUE.sentence("14: BAD: down is not 1 .. 2147483647, up not 0 .. down.");
        DrawStreams x = Drawn.at(0).x;
        for (int[] c : NO_CHANCE) {
            DUE.is("coin(0, " + c[0] + ", " + c[1] + ")", x.coin(0, c[0], c[1]), BAD);
        }
        for (int d : NO_SUCH) {
            DUE.is("coin(" + d + ", 1, 1)", x.coin(d, 1, 1), BAD);
        }
        DUE.sentence("14: A COIN: 1 true, 0 false.");
        DUE.is("coin(0, 1, 1)", x.coin(0, 1, 1), 1);
        DUE.is("coin(0, 0, 1)", x.coin(0, 0, 1), 0);
        DUE.is("coin(0, most, most)", x.coin(0, MOST, MOST), 1);
        DUE.is("coin(0, 0, most)", x.coin(0, 0, MOST), 0);
    }

    private static void misses() {
        DUE.sentence("15: COINS till one is true: how many were not");
        isMisses(8, 1, 4, 5, 0, 1);
        isMisses(0, 1, 2, 1000, 6, 7);
        isMisses(0, 1, 1000, 1000, 773, 774);
        isMisses(0, 3, 3, 1000, 0, 0);
        DUE.sentence("15: most (0 .. 1000): so many were not, and no more are thrown");
        isMisses(0, 1, 2, 0, 0, 0);
        isMisses(8, 1, 4, 0, 0, 0);
        isMisses(0, 1, 2, 5, 5, 5);
        isMisses(0, 1, 2, 6, 6, 6);
        isMisses(0, 1, 2, 7, 6, 7);
        isMisses(0, 1, MOST, 1000, 1000, 1000);
        isMisses(0, 0, 1, 1000, 1000, 0);
        DUE.sentence("15: BAD: as coin(), most.");
        DrawStreams x = Drawn.at(0).x;
        for (int[] c : NO_CHANCE) {
            DUE.is("misses(0, " + c[0] + ", " + c[1] + ", 0)", x.misses(0, c[0], c[1], 0), BAD);
        }
        for (int d : NO_SUCH) {
            DUE.is("misses(" + d + ", 1, 2, 0)", x.misses(d, 1, 2, 0), BAD);
        }
        int[] wrong = {-1, 1001, LEAST, MOST};
        for (int most : wrong) {
            DUE.is("misses(0, 1, 2, " + most + ")", x.misses(0, 1, 2, most), BAD);
        }
    }

    private static void isMisses(long place, int up, int down, int most, int want, int words) {
        Drawn d = Drawn.at(place);
        String call = "misses(0, " + up + ", " + down + ", " + most + ") at " + place;
        DUE.is(call, d.x.misses(0, up, down, most), want);
        DUE.is("words of " + call, d.taken(), words);
    }

    private static void hits() {
        DUE.sentence("16: How many of n COINS (0 .. 1000) are true.");
        isHits(0, 1, 2, 0, 0, 0);
        isHits(0, 1, 2, 1, 0, 1);
        isHits(8, 1, 2, 1, 1, 1);
        isHits(0, 1, 3, 999, 326, 999);
        isHits(0, 1, 2, 1000, 501, 1000);
        isHits(0, 5, 5, 1000, 1000, 0);
        isHits(0, 0, 5, 1000, 0, 0);
        DUE.sentence("16: BAD: likewise.");
        DrawStreams x = Drawn.at(0).x;
        for (int[] c : NO_CHANCE) {
            DUE.is("hits(0, " + c[0] + ", " + c[1] + ", 0)", x.hits(0, c[0], c[1], 0), BAD);
        }
        for (int d : NO_SUCH) {
            DUE.is("hits(" + d + ", 1, 2, 0)", x.hits(d, 1, 2, 0), BAD);
        }
        int[] wrong = {-1, 1001, LEAST, MOST};
        for (int n : wrong) {
            DUE.is("hits(0, 1, 2, " + n + ")", x.hits(0, 1, 2, n), BAD);
        }
    }

    private static void isHits(long place, int up, int down, int n, int want, int words) {
        Drawn d = Drawn.at(place);
        String call = "hits(0, " + up + ", " + down + ", " + n + ") at " + place;
        DUE.is(call, d.x.hits(0, up, down, n), want);
        DUE.is("words of " + call, d.taken(), words);
    }

    private static void mask() {
        DUE.sentence("17: n COINS (1 .. 64): bit i tells the i-th, from 0.");
        isMask(8, 1, 2, 1, 1, 1);
        isMask(0, 1, 2, 1, 0, 1);
        isMask(8, 1, 2, 31, 271839713L, 31);
        isMask(8, 1, 2, 32, 2419323361L, 32);
        isMask(8, 1, 2, 33, 6714290657L, 33);
        isMask(8, 1, 2, 63, 6069935054014116321L, 63);
        isMask(8, 1, 2, 64, -3153436982840659487L, 64);
        isMask(0, 1, 1, 64, -1, 0);
        DUE.sentence("17: 0 also as BAD.");
        DrawStreams x = Drawn.at(8).x;
        for (int[] c : NO_CHANCE) {
            DUE.is("mask(0, " + c[0] + ", " + c[1] + ", 1)", x.mask(0, c[0], c[1], 1), 0);
        }
        for (int d : NO_SUCH) {
            DUE.is("mask(" + d + ", 1, 1, 1)", x.mask(d, 1, 1, 1), 0);
        }
        int[] wrong = {0, -1, 65, LEAST, MOST};
        for (int n : wrong) {
            DUE.is("mask(0, 1, 1, " + n + ")", x.mask(0, 1, 1, n), 0);
            DUE.is("mask(0, 1, 2, " + n + ")", x.mask(0, 1, 2, n), 0);
        }
        DUE.is("nothing was taken", x.told(0, 0), 8);
    }

    private static void isMask(long place, int up, int down, int n, long want, int words) {
        Drawn d = Drawn.at(place);
        String call = "mask(0, " + up + ", " + down + ", " + n + ") at " + place;
        DUE.is(call, d.x.mask(0, up, down, n), want);
        DUE.is("words of " + call, d.taken(), words);
    }

    private static void normal() {
        DUE.sentence("18: A NORMAL. 0 (which it may be) also: no such DRAWER.");
        DUE.is("normal(0) of a new object", new DrawStreams().normal(0), 0);
        Drawn d = Drawn.at(109699611148L);
        for (int none : NO_SUCH) {
            DUE.is("normal(" + none + ")", d.x.normal(none), 0);
        }
        DUE.is("words so far", d.taken(), 0);
        DUE.is("a normal that is 0", d.x.normal(0), 0);
        DUE.is("its words", d.taken(), 5);
    }

    private static void permutation() {
        DUE.sentence("19: THE ROW is 0 .. n - 1 (n 0 .. 200), and for i from n - 1 down to 1 changes places i and BELOW i + 1: n.");
        isPermutation(0, 0, "", 0, 0);
        isPermutation(0, 1, "0", 0, 0);
        isPermutation(0, 2, "0 1", 1, 0);
        isPermutation(8, 2, "1 0", 1, 0);
        isPermutation(0, 3, "0 1 2", 4, 2);
        isPermutation(0, 5, "0 1 3 2 4", 6, 2);
        Drawn d = Drawn.at(0);
        DUE.is("permutation(0, 200)", d.x.permutation(0, 200), 200);
        DUE.is("its words", d.taken(), 275);
        DUE.is("REJECTED", d.rejected(), 76);
        DUE.is("at(0)", d.x.at(0), 35);
        DUE.is("at(1)", d.x.at(1), 189);
        DUE.is("at(198)", d.x.at(198), 182);
        DUE.is("at(199)", d.x.at(199), 149);
        DUE.sentence("19: BAD.");
        DrawStreams x = Drawn.at(0).x;
        int[] wrong = {-1, 201, LEAST, MOST};
        for (int n : wrong) {
            DUE.is("permutation(0, " + n + ")", x.permutation(0, n), BAD);
        }
        for (int none : NO_SUCH) {
            DUE.is("permutation(" + none + ", 0)", x.permutation(none, 0), BAD);
        }
    }

    private static void isPermutation(long place, int n, String row, int words, int rejected) {
        Drawn d = Drawn.at(place);
        DUE.is("permutation(0, " + n + ")", d.x.permutation(0, n), n);
        DUE.isText("the row of permutation(0, " + n + ")", d.row(), row);
        DUE.is("words of permutation(0, " + n + ")", d.taken(), words);
        DUE.is("REJECTED of permutation(0, " + n + ")", d.rejected(), rejected);
    }

    private static void subset() {
        DUE.sentence("20: m of the numbers below n (0 .. 1000000), rising");
        isSubset(0, 0, 0, "", 0);
        isSubset(0, 1, 1, "0", 0);
        isSubset(0, 3, 3, "0 1 2", 3);
        isSubset(0, 1000000, 0, "", 0);
        isSubset(0, 1000000, 1, "933504", 1);
        DUE.is("subset(0, 1000001, 1)", Drawn.at(0).x.subset(0, 1000001, 1), BAD);
        DUE.is("subset(0, -1, 0)", Drawn.at(0).x.subset(0, -1, 0), BAD);
        DUE.sentence("20: t comes into it, or, if that is there, j");
        // t is 0, then 4, which is j; 3, then 3 again; 1, then 1 again; 0, then 0 again; 1, then 3.
        isSubset(8, 5, 2, "0 4", 2);
        isSubset(5, 5, 2, "3 4", 2);
        isSubset(6, 5, 2, "1 4", 3);
        isSubset(14, 5, 2, "0 4", 2);
        isSubset(12, 5, 2, "0 3", 2);
        DUE.sentence("20: m (0 .. 200, n at most)");
        isGreatSubset(200, "0 1 198 199", 286);
        isGreatSubset(201, "0 1 199 200", 287);
        isGreatSubset(1000000, "4611 20487 996708 999985", 205);
        DUE.is("subset(0, 201, 201)", Drawn.at(0).x.subset(0, 201, 201), BAD);
        DUE.is("subset(0, 199, 200)", Drawn.at(0).x.subset(0, 199, 200), BAD);
        DUE.is("subset(0, 5, 6)", Drawn.at(0).x.subset(0, 5, 6), BAD);
        DUE.is("subset(0, 0, 1)", Drawn.at(0).x.subset(0, 0, 1), BAD);
        DUE.is("subset(0, 5, -1)", Drawn.at(0).x.subset(0, 5, -1), BAD);
        DUE.sentence("20: BAD.");
        DrawStreams x = Drawn.at(0).x;
        int[][] wrong = {{LEAST, 0}, {LEAST, LEAST}, {MOST, 0}, {5, LEAST}, {5, MOST}, {MOST, MOST}};
        for (int[] w : wrong) {
            DUE.is("subset(0, " + w[0] + ", " + w[1] + ")", x.subset(0, w[0], w[1]), BAD);
        }
        for (int none : NO_SUCH) {
            DUE.is("subset(" + none + ", 0, 0)", x.subset(none, 0, 0), BAD);
        }
    }

    private static void isSubset(long place, int n, int m, String row, int words) {
        Drawn d = Drawn.at(place);
        String call = "subset(0, " + n + ", " + m + ") at " + place;
        DUE.is(call, d.x.subset(0, n, m), m);
        DUE.isText("the row of " + call, d.row(), row);
        DUE.is("words of " + call, d.taken(), words);
    }

    /** 200 of the numbers below n: the first two and the last two of them. */
    private static void isGreatSubset(int n, String ends, int words) {
        Drawn d = Drawn.at(0);
        DUE.is("subset(0, " + n + ", 200)", d.x.subset(0, n, 200), 200);
        DUE.isText("its ends", d.x.at(0) + " " + d.x.at(1) + " " + d.x.at(198) + " " + d.x.at(199), ends);
        DUE.is("its words", d.taken(), words);
        for (int i = 1; i < 200; i++) {
            DUE.holds("number " + i + " of it is more than the one before", d.x.at(i) > d.x.at(i - 1));
        }
    }

    private static void at() {
        DUE.sentence("21: ArrayIndexOutOfBoundsException: none such.");
        DrawStreams x = Drawn.at(8).x;
        DUE.isThrown("at(0), the row being empty", () -> x.at(0), OUT);
        x.permutation(0, 2);
        DUE.is("at(0) of two", x.at(0), 1);
        DUE.is("at(1) of two", x.at(1), 0);
        DUE.isThrown("at(2) of two", () -> x.at(2), OUT);
        DUE.isThrown("at(-1)", () -> x.at(-1), OUT);
        DUE.isThrown("at(least)", () -> x.at(LEAST), OUT);
        DUE.isThrown("at(most)", () -> x.at(MOST), OUT);
        x.subset(0, 1000, 200);
        DUE.isThrown("at(199) of 200", () -> x.at(199), "nothing");
        DUE.isThrown("at(200) of 200", () -> x.at(200), OUT);
        x.subset(0, 1000, 1);
        DUE.isThrown("at(0) of one, behind 200", () -> x.at(0), "nothing");
        DUE.isThrown("at(1) of one, behind 200", () -> x.at(1), OUT);
        x.permutation(0, 0);
        DUE.isThrown("at(0), the row being empty again", () -> x.at(0), OUT);
    }

    private static void weight() {
        DUE.sentence("22: Weight i (0 .. 31; all 0 at first) is w (0 .. 10 to the 12) from now on: what it was.");
        DrawStreams x = new DrawStreams();
        int[] ends = {0, 31};
        for (int i : ends) {
            DUE.is("weight(" + i + ", 10 to the 12) at first", x.weight(i, TRILLION), 0);
            DUE.is("weight(" + i + ", 0) then", x.weight(i, 0), TRILLION);
            DUE.is("weight(" + i + ", 1) then", x.weight(i, 1), 0);
            DUE.is("weight(" + i + ", 1) again", x.weight(i, 1), 1);
        }
        DUE.is("weight(1, 0)", x.weight(1, 0), 0);
        DUE.is("weight(30, 0)", x.weight(30, 0), 0);
        DUE.sentence("22: BAD.");
        int[] none = {-1, 32, LEAST, MOST};
        for (int i : none) {
            DUE.is("weight(" + i + ", 0)", x.weight(i, 0), BAD);
        }
        long[] wrong = {-1, TRILLION + 1, Long.MIN_VALUE, Long.MAX_VALUE};
        for (long w : wrong) {
            DUE.is("weight(0, " + w + ")", x.weight(0, w), BAD);
            DUE.is("weight(31, " + w + ")", x.weight(31, w), BAD);
        }
        DUE.is("weight 0 still", x.weight(0, 0), 1);
        DUE.is("weight 31 still", x.weight(31, 0), 1);
    }

    private static void choose() {
        DUE.sentence("23: NONE: all are 0 (nothing is taken).");
        DrawStreams x = Drawn.at(3).x;
        DUE.is("choose(0)", x.choose(0), DrawStreams.NONE);
        x.weight(31, 1);
        DUE.is("choose(0), the last weight being 1", x.choose(0), 31);
        x.weight(31, 0);
        DUE.is("choose(0), it being 0 again", x.choose(0), DrawStreams.NONE);
        DUE.is("told(0, 0)", x.told(0, 0), 3);
        DUE.is("told(0, 1)", x.told(0, 1), 0);
        DUE.sentence("23: BAD");
        for (int none : NO_SUCH) {
            DUE.is("choose(" + none + "), all weights being 0", x.choose(none), BAD);
        }
        x.weight(0, 1);
        for (int none : NO_SUCH) {
            DUE.is("choose(" + none + ")", x.choose(none), BAD);
        }
    }

    private static void chooseFirst() {
        DUE.sentence("23: With v BELOW the sum of all weights: the first i for which weights 0 to i together are more than v.");
        // Weights 2, 0, 5, 1: at these places v is 0, 1, 2, 6, 7.
        long[] places = {13, 8, 21, 5, 0};
        int[] chosen = {0, 0, 2, 2, 3};
        for (int i = 0; i < places.length; i++) {
            Drawn d = Drawn.at(places[i]);
            d.x.weight(0, 2);
            d.x.weight(2, 5);
            d.x.weight(3, 1);
            DUE.is("choose(0) at " + places[i], d.x.choose(0), chosen[i]);
            DUE.is("its words", d.taken(), 1);
        }
        isChosenOfGreat(0, 31, 2, 0);
        isChosenOfGreat(8, 8, 2, 0);
        isChosenOfGreat(34, 7, 4, 1);
    }

    private static void isChosenOfGreat(long place, int want, int words, int rejected) {
        Drawn d = Drawn.at(place);
        for (int i = 0; i < 32; i++) {
            d.x.weight(i, TRILLION);
        }
        DUE.is("choose(0) at " + place + ", all weights being the greatest", d.x.choose(0), want);
        DUE.is("its words", d.taken(), words);
        DUE.is("REJECTED", d.rejected(), rejected);
    }

    /** Key, stream, n and a number: each row is wrong by one thing alone. */
    private static final int[][] NO_ORDER = {{-1, 0, 10, 0}, {1, 0, 10, 0}, {LEAST, 0, 10, 0}, {MOST, 0, 10, 0}, {0, -1, 10, 0}, {0, LEAST, 10, 0},
        {0, 0, 0, 0}, {0, 0, -1, 0}, {0, 0, 1073741825, 0}, {0, 0, MOST, 0}, {0, 0, LEAST, 0},
        {0, 0, 10, -1}, {0, 0, 10, 10}, {0, 0, 10, LEAST}, {0, 0, 10, MOST}, {0, 0, 1, 1}, {0, 0, 1073741824, 1073741824}};

    private static void secret() {
        DUE.sentence("24: BAD: also i not 0 .. n - 1.");
        DrawStreams x = new DrawStreams();
        DUE.is("secret(0, 0, 10, 0) without keys", x.secret(0, 0, 10, 0), BAD);
        x.key(9);
        for (int[] w : NO_ORDER) {
            DUE.is("secret(" + w[0] + ", " + w[1] + ", " + w[2] + ", " + w[3] + ")", x.secret(w[0], w[1], w[2], w[3]), BAD);
        }
        DUE.is("secret(0, 0, 10, 0)", x.secret(0, 0, 10, 0), 2);
        DUE.is("secret(0, 0, 10, 9)", x.secret(0, 0, 10, 9), 8);
        DUE.is("secret of the last number of all", x.secret(0, 0, 1073741824, 1073741823), 182997043);
    }

    private static void back() {
        DUE.sentence("25: The i that has a PLACE in it. BAD likewise.");
        DrawStreams x = new DrawStreams();
        DUE.is("back(0, 0, 10, 0) without keys", x.back(0, 0, 10, 0), BAD);
        x.key(9);
        for (int[] w : NO_ORDER) {
            DUE.is("back(" + w[0] + ", " + w[1] + ", " + w[2] + ", " + w[3] + ")", x.back(w[0], w[1], w[2], w[3]), BAD);
        }
        DUE.is("back(0, 0, 10, 2)", x.back(0, 0, 10, 2), 0);
        DUE.is("back(0, 0, 10, 8)", x.back(0, 0, 10, 8), 9);
        DUE.is("back of the first place of most", x.back(0, 0, 1073741824, 0), 579865634);
        DUE.is("back of the last place of all", x.back(0, 0, 1073741824, 1073741823), 418962629);
    }

    private static void count() {
        DUE.sentence("26: How many: 0 KEYS, 1 DRAWERS, 2 THE ROW.");
        DrawStreams x = new DrawStreams();
        for (int what = 0; what < 3; what++) {
            DUE.is("count(" + what + ") at first", x.count(what), 0);
        }
        DUE.is("count(0), full", fullOfKeys().count(0), 16);
        DUE.is("count(1), full", fullOfDrawers().count(1), 12);
        DrawStreams y = Drawn.at(0).x;
        y.permutation(0, 200);
        DUE.is("count(2), full", y.count(2), 200);
        DUE.sentence("26: BAD.");
        int[] wrong = {-1, 3, LEAST, MOST};
        for (int what : wrong) {
            DUE.is("count(" + what + ")", x.count(what), BAD);
        }
    }
}
