import java.math.BigInteger;

/** Promises 10 to 13: bits, below, real, single. */
public final class BitsTest {
    private static final Due DUE = new Due("BitsTest");

    public static void main(String[] args) {
        bits();
        bitsRefused();
        below();
        belowRefused();
        belowNearPowers();
        reals();
        DUE.end();
    }

    private static DrawStreams withDrawer(long k, int stream) {
        DrawStreams x = new DrawStreams();
        x.key(k);
        x.drawer(0, stream);
        return x;
    }

    /** The n highest bits of the words at a place and behind it. */
    private static long highest(long key, int stream, long place, int n) {
        BigInteger both = BigInteger.valueOf(Model.wordOf(key, stream, place)).shiftLeft(32).add(BigInteger.valueOf(Model.wordOf(key, stream, place + 1)));
        return both.shiftRight(64 - n).longValue();
    }

    private static void bits() {
        DrawStreams x = withDrawer(1, 6);
        long place = 0;
        for (int round = 0; round < 3; round++) {
            for (int n = 0; n <= 64; n++) {
                DUE.is("bits(0, " + n + ")", x.bits(0, n), highest(1, 6, place, n));
                place += n > 32 ? 2 : n > 0 ? 1 : 0;
                DUE.is("PLACE behind " + n, x.told(0, 0), place);
            }
        }
        DUE.is("bits reject nothing", x.told(0, 1), 0);
    }

    private static void bitsRefused() {
        DrawStreams x = withDrawer(1, 6);
        int[] wrong = {-1, 65, 96, Integer.MIN_VALUE, Integer.MAX_VALUE};
        for (int n : wrong) {
            DUE.is("bits(0, " + n + ")", x.bits(0, n), DrawStreams.BAD);
        }
        DUE.is("bits(1, 8)", x.bits(1, 8), DrawStreams.BAD);
        DUE.is("bits(-1, 8)", x.bits(-1, 8), DrawStreams.BAD);
        DUE.is("bits(1, 0)", x.bits(1, 0), DrawStreams.BAD);
        DUE.is("nothing was taken", x.told(0, 0), 0);
    }

    private static void below() {
        DrawStreams x = withDrawer(7, 3);
        DUE.is("below(0, 1)", x.below(0, 1), 0);
        DUE.is("nothing is taken for 1", x.told(0, 0), 0);
        boolean[] seen = new boolean[5];
        for (int i = 0; i < 100; i++) {
            long place = x.told(0, 0);
            long rejected = x.told(0, 1);
            while (Model.wordOf(7, 3, place) >>> 29 >= 5) {
                place++;
                rejected++;
            }
            DUE.is("below(0, 5)", x.below(0, 5), Model.wordOf(7, 3, place) >>> 29);
            DUE.is("PLACE", x.told(0, 0), place + 1);
            DUE.is("REJECTED", x.told(0, 1), rejected);
            seen[(int) (Model.wordOf(7, 3, place) >>> 29)] = true;
        }
        for (int i = 0; i < 5; i++) {
            DUE.holds("below(0, 5) gives " + i, seen[i]);
        }
    }

    private static void belowRefused() {
        DrawStreams x = withDrawer(7, 3);
        x.bits(0, 1);
        DUE.isThrown("below(0, 0)", () -> x.below(0, 0), "ArithmeticException");
        DUE.is("below(0, -1)", x.below(0, -1), DrawStreams.BAD);
        DUE.is("below(0, least)", x.below(0, Long.MIN_VALUE), DrawStreams.BAD);
        DUE.is("below(1, 5)", x.below(1, 5), DrawStreams.BAD);
        DUE.is("below(-1, 5)", x.below(-1, 5), DrawStreams.BAD);
        DUE.isThrown("below(1, 0): BAD is told first", () -> x.below(1, 0), "nothing");
        DUE.is("below(1, 0)", x.below(1, 0), DrawStreams.BAD);
        DUE.is("nothing was taken", x.told(0, 0), 1);
        DUE.is("nothing was rejected", x.told(0, 1), 0);
    }

    private static void belowNearPowers() {
        for (int n = 0; n <= 63; n++) {
            DrawStreams x = withDrawer(99, 0);
            long power = n == 63 ? Long.MAX_VALUE : 1L << n;
            for (long span = power - 2; span <= power + 2 && span > 0; span++) {
                int width = BigInteger.valueOf(span).subtract(BigInteger.ONE).bitLength();
                int step = width > 32 ? 2 : width > 0 ? 1 : 0;
                x.place(0, 1000 * n);
                long rejected = x.told(0, 1);
                long place = 1000 * n;
                while (highest(99, 0, place, width) >= span) {
                    place += step;
                    rejected++;
                }
                DUE.is("below(0, " + span + ")", x.below(0, span), highest(99, 0, place, width));
                DUE.is("PLACE for " + span, x.told(0, 0), place + step);
                DUE.is("REJECTED for " + span, x.told(0, 1), rejected);
                if (span == Long.MAX_VALUE) {
                    break;
                }
            }
        }
    }

    private static void reals() {
        DrawStreams x = withDrawer(12, 4);
        for (int i = 0; i < 50; i++) {
            long place = x.told(0, 0);
            DUE.isReal("real(0)", x.real(0), highest(12, 4, place, 53) * Math.pow(2, -53));
            DUE.is("two words for a real", x.told(0, 0), place + 2);
            DUE.isReal("single(0)", x.single(0), Model.wordOf(12, 4, place + 2) / 256 * Math.pow(2, -24));
            DUE.is("one word for a single", x.told(0, 0), place + 3);
        }
        long taken = x.told(0, 0);
        DUE.isReal("real(1)", x.real(1), -1.0);
        DUE.isReal("real(-1)", x.real(-1), -1.0);
        DUE.isReal("single(1)", x.single(1), -1.0);
        DUE.isReal("single(-1)", x.single(-1), -1.0);
        DUE.is("nothing was taken", x.told(0, 0), taken);
    }
}
