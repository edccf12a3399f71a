import java.math.BigInteger;

/** Promises 14 to 17: coin, misses, hits, mask. */
public final class CoinsTest {
    private static final Due DUE = new Due("CoinsTest");
    private static final int STREAM = 2;

    public static void main(String[] args) {
        sureCoins();
        coins();
        tiesThatEnd();
        tiesThatGoOn();
        refusedCoins();
        misses();
        hits();
        masks();
        DUE.end();
    }

    private static DrawStreams withDrawer(long k) {
        DrawStreams x = new DrawStreams();
        x.key(k);
        x.drawer(0, STREAM);
        return x;
    }

    private static void sureCoins() {
        DrawStreams x = withDrawer(30);
        int[] downs = {1, 2, 3, 1000, Integer.MAX_VALUE};
        for (int down : downs) {
            DUE.is("coin(0, 0, " + down + ")", x.coin(0, 0, down), 0);
            DUE.is("coin(0, down, " + down + ")", x.coin(0, down, down), 1);
        }
        DUE.is("nothing was taken", x.told(0, 0), 0);
    }

    private static void coins() {
        DrawStreams x = withDrawer(31);
        int[][] chances = {{1, 2}, {1, 3}, {2, 3}, {1, Integer.MAX_VALUE}, {Integer.MAX_VALUE - 1, Integer.MAX_VALUE}, {1073741824, Integer.MAX_VALUE}, {7, 1000}};
        for (int i = 0; i < 140; i++) {
            int up = chances[i % 7][0];
            int down = chances[i % 7][1];
            BigInteger q = BigInteger.valueOf(up).shiftLeft(32).divide(BigInteger.valueOf(down));
            long word = Model.wordOf(31, STREAM, i);
            DUE.holds("no tie here", word != q.longValue());
            DUE.is("coin(0, " + up + ", " + down + ")", x.coin(0, up, down), word < q.longValue() ? 1 : 0);
            DUE.is("PLACE", x.told(0, 0), i + 1);
        }
    }

    /** down 2 to the 30 and up a quarter of the word: the word is like q, and the rest is 0. */
    private static void tiesThatEnd() {
        DrawStreams x = withDrawer(32);
        int met = 0;
        for (int i = 0; i < 100; i++) {
            long word = Model.wordOf(32, STREAM, i);
            if (word % 4 == 0 && word > 0) {
                x.place(0, i);
                DUE.is("a tie without a rest", x.coin(0, (int) (word / 4), 1 << 30), 0);
                DUE.is("one word was taken", x.told(0, 0), i + 1);
                x.place(0, i);
                DUE.is("a bit more", x.coin(0, (int) (word / 4) + 1, 1 << 30), 1);
                x.place(0, i);
                DUE.is("a bit less", x.coin(0, (int) (word / 4) - 1, 1 << 30), 0);
                met++;
            }
        }
        DUE.holds("there were such ties", met > 5);
    }

    /** Chances whose first 32 bits are the word's: the second word decides, by the second 32 bits. */
    private static void tiesThatGoOn() {
        DrawStreams x = withDrawer(33);
        int[] answers = new int[2];
        for (int i = 0; i < 40; i++) {
            BigInteger word = BigInteger.valueOf(Model.wordOf(33, STREAM, i));
            for (int down = Integer.MAX_VALUE; down > Integer.MAX_VALUE - 4; down--) {
                BigInteger under = BigInteger.valueOf(down);
                BigInteger up = word.multiply(under).add(BigInteger.ONE.shiftLeft(32)).subtract(BigInteger.ONE).shiftRight(32);
                BigInteger[] first = up.shiftLeft(32).divideAndRemainder(under);
                if (!first[0].equals(word) || first[1].signum() == 0) {
                    continue;
                }
                long q = first[1].shiftLeft(32).divide(under).longValue();
                int want = Model.wordOf(33, STREAM, i + 1) < q ? 1 : 0;
                answers[want]++;
                x.place(0, i);
                DUE.is("a tie that goes on", x.coin(0, up.intValue(), down), want);
                DUE.is("two words were taken", x.told(0, 0), i + 2);
            }
        }
        DUE.holds("there were such ties, with both ends", answers[0] > 5 && answers[1] > 5);
    }

    private static void refusedCoins() {
        DrawStreams x = withDrawer(34);
        int[][] wrong = {{0, 1, 0}, {0, 0, 0}, {0, 0, -1}, {0, -1, 2}, {0, 3, 2}, {0, 1, -2}, {0, -2, -1}, {1, 1, 2}, {-1, 1, 2}, {1, 0, 1},
            {0, Integer.MAX_VALUE, Integer.MAX_VALUE - 1}, {0, 1, Integer.MIN_VALUE}, {0, Integer.MIN_VALUE, 1}};
        for (int[] w : wrong) {
            String told = "(" + w[0] + ", " + w[1] + ", " + w[2];
            DUE.is("coin" + told, x.coin(w[0], w[1], w[2]), DrawStreams.BAD);
            DUE.is("misses" + told, x.misses(w[0], w[1], w[2], 5), DrawStreams.BAD);
            DUE.is("hits" + told, x.hits(w[0], w[1], w[2], 5), DrawStreams.BAD);
            DUE.is("mask" + told, x.mask(w[0], w[1], w[2], 5), 0);
        }
        int[] counts = {-1, 1001, Integer.MIN_VALUE, Integer.MAX_VALUE};
        for (int n : counts) {
            DUE.is("misses of " + n, x.misses(0, 1, 2, n), DrawStreams.BAD);
            DUE.is("hits of " + n, x.hits(0, 1, 2, n), DrawStreams.BAD);
            DUE.is("mask of " + n, x.mask(0, 1, 1, n), 0);
        }
        DUE.is("mask of 0", x.mask(0, 1, 1, 0), 0);
        DUE.is("mask of 65", x.mask(0, 1, 1, 65), 0);
        DUE.is("nothing was taken", x.told(0, 0), 0);
    }

    private static void misses() {
        DrawStreams x = withDrawer(35);
        DUE.is("misses, 0 at most", x.misses(0, 1, 2, 0), 0);
        DUE.is("nothing was taken", x.told(0, 0), 0);
        DUE.is("misses, up 0", x.misses(0, 0, 2, 1000), 1000);
        DUE.is("misses, up = down", x.misses(0, 2, 2, 1000), 0);
        DUE.is("nothing was taken", x.told(0, 0), 0);
        for (int most = 1; most < 60; most++) {
            long place = x.told(0, 0);
            int want = 0;
            while (want < most && Model.wordOf(35, STREAM, place + want) >= 4294967296L / 16) {
                want++;
            }
            DUE.is("misses(0, 1, 16, " + most + ")", x.misses(0, 1, 16, most), want);
            DUE.is("PLACE", x.told(0, 0), place + (want < most ? want + 1 : most));
        }
        long place = x.told(0, 0);
        DUE.is("misses, 1000 at most", x.misses(0, 1, Integer.MAX_VALUE, 1000), 1000);
        DUE.is("1000 were thrown", x.told(0, 0), place + 1000);
    }

    private static void hits() {
        DrawStreams x = withDrawer(36);
        DUE.is("hits of 0", x.hits(0, 1, 2, 0), 0);
        DUE.is("hits, up 0", x.hits(0, 0, 7, 1000), 0);
        DUE.is("hits, up = down", x.hits(0, 7, 7, 1000), 1000);
        DUE.is("nothing was taken", x.told(0, 0), 0);
        int[] counts = {1, 2, 17, 1000};
        for (int n : counts) {
            long place = x.told(0, 0);
            int want = 0;
            for (int i = 0; i < n; i++) {
                want += Model.wordOf(36, STREAM, place + i) < 4294967296L / 4 * 3 ? 1 : 0;
            }
            DUE.is("hits(0, 3, 4, " + n + ")", x.hits(0, 3, 4, n), want);
            DUE.is("PLACE", x.told(0, 0), place + n);
        }
    }

    private static void masks() {
        DrawStreams x = withDrawer(37);
        DUE.is("mask, up = down, 64", x.mask(0, 3, 3, 64), -1);
        DUE.is("mask, up = down, 1", x.mask(0, 3, 3, 1), 1);
        DUE.is("mask, up = down, 33", x.mask(0, 3, 3, 33), (1L << 33) - 1);
        DUE.is("mask, up 0", x.mask(0, 0, 3, 64), 0);
        DUE.is("nothing was taken", x.told(0, 0), 0);
        for (int n = 1; n <= 64; n++) {
            long place = x.told(0, 0);
            BigInteger want = BigInteger.ZERO;
            for (int i = 0; i < n; i++) {
                if (Model.wordOf(37, STREAM, place + i) < 2147483648L) {
                    want = want.setBit(i);
                }
            }
            DUE.is("mask(0, 1, 2, " + n + ")", x.mask(0, 1, 2, n), want.longValue());
            DUE.is("PLACE", x.told(0, 0), place + n);
        }
    }
}
