import java.util.ArrayList;
import java.util.Collections;
import java.util.List;
import java.util.TreeSet;

/**
 * The document once more, told another way and with no thought of speed or room: int arithmetic for
 * the WORDS, a new list for each DEVIATE, sets for subsets, a search for the way back. RunsTest holds
 * the class against it.
 */
final class Model {
    static final int BAD = -1;
    static final int FULL = -2;
    static final int NONE = -3;

    private static final class Goer {
        int key;
        int stream;
        long place;
        long rejected;
    }

    private final List<Long> keys = new ArrayList<>();
    private final List<Goer> goers = new ArrayList<>();
    private List<Integer> row = new ArrayList<>();
    private final long[] weights = new long[32];

    static int[] four(long key, int stream, int sort, long b) {
        int[] x = {(int) b, (int) (b >> 32), stream, sort};
        int k0 = (int) key;
        int k1 = (int) (key >> 32);
        for (int round = 0; round < 10; round++) {
            long p = Integer.toUnsignedLong(0xD2511F53) * Integer.toUnsignedLong(x[0]);
            long q = Integer.toUnsignedLong(0xCD9E8D57) * Integer.toUnsignedLong(x[2]);
            x = new int[] {(int) (q >> 32) ^ x[1] ^ k0, (int) q, (int) (p >> 32) ^ x[3] ^ k1, (int) p};
            k0 += 0x9E3779B9;
            k1 += 0xBB67AE85;
        }
        return x;
    }

    static long wordOf(long key, int stream, long i) {
        return Integer.toUnsignedLong(four(key, stream, 0, i / 4)[(int) (i % 4)]);
    }

    private boolean noKey(int key) {
        return key < 0 || key >= keys.size();
    }

    private boolean noGoer(int d) {
        return d < 0 || d >= goers.size();
    }

    int key(long k) {
        if (keys.size() == 16) {
            return FULL;
        }
        keys.add(k);
        return keys.size() - 1;
    }

    int split(int key, int part) {
        if (noKey(key)) {
            return BAD;
        }
        int[] x = four(keys.get(key), 0, 1, part);
        return key(Integer.toUnsignedLong(x[0]) * 4294967296L + Integer.toUnsignedLong(x[1]));
    }

    long bitsOf(int key) {
        return noKey(key) ? BAD : keys.get(key);
    }

    long word(int key, int stream, long i) {
        return noKey(key) || stream < 0 || i < 0 ? BAD : wordOf(keys.get(key), stream, i);
    }

    int drawer(int key, int stream) {
        if (noKey(key) || stream < 0) {
            return BAD;
        }
        if (goers.size() == 12) {
            return FULL;
        }
        Goer made = new Goer();
        made.key = key;
        made.stream = stream;
        goers.add(made);
        return goers.size() - 1;
    }

    int place(int d, long place) {
        if (noGoer(d) || place < 0 || place > 2305843009213693952L) {
            return BAD;
        }
        goers.get(d).place = place;
        return 1;
    }

    long told(int d, int what) {
        if (noGoer(d) || what < 0 || what > 3) {
            return BAD;
        }
        Goer g = goers.get(d);
        return new long[] {g.place, g.rejected, g.key, g.stream}[what];
    }

    boolean same(int d, int e) {
        if (noGoer(d) || noGoer(e)) {
            return false;
        }
        Goer g = goers.get(d);
        Goer h = goers.get(e);
        return keys.get(g.key).equals(keys.get(h.key)) && g.stream == h.stream && g.place == h.place;
    }

    private long take(Goer g) {
        long got = wordOf(keys.get(g.key), g.stream, g.place);
        g.place += 1;
        return got;
    }

    private long bitsFrom(Goer g, int n) {
        long got = 0;
        long word = 0;
        for (int i = 0; i < n; i++) {
            if (i % 32 == 0) {
                word = take(g);
            }
            got = 2 * got + (word >> (31 - i % 32)) % 2;
        }
        return got;
    }

    private long belowFrom(Goer g, long span) {
        int n = 64 - Long.numberOfLeadingZeros(span - 1);
        long got = bitsFrom(g, n);
        while (got >= span) {
            g.rejected += 1;
            got = bitsFrom(g, n);
        }
        return got;
    }

    long bits(int d, int n) {
        return noGoer(d) || n < 0 || n > 64 ? BAD : bitsFrom(goers.get(d), n);
    }

    long below(int d, long span) {
        if (noGoer(d) || span < 0) {
            return BAD;
        }
        if (span == 0) {
            throw new ArithmeticException();
        }
        return belowFrom(goers.get(d), span);
    }

    double real(int d) {
        return noGoer(d) ? -1.0 : bitsFrom(goers.get(d), 53) * Math.pow(2, -53);
    }

    float single(int d) {
        return noGoer(d) ? -1.0f : (float) (bitsFrom(goers.get(d), 24) * Math.pow(2, -24));
    }

    private boolean noChance(int up, int down) {
        return down < 1 || up < 0 || up > down;
    }

    private int coinFrom(Goer g, int up, int down) {
        if (up == 0 || up == down) {
            return up == 0 ? 0 : 1;
        }
        long r = up;
        while (true) {
            long q = r * 4294967296L / down;
            r = r * 4294967296L - q * down;
            int sign = Long.compare(take(g), q);
            if (sign != 0) {
                return sign < 0 ? 1 : 0;
            }
            if (r == 0) {
                return 0;
            }
        }
    }

    int coin(int d, int up, int down) {
        return noGoer(d) || noChance(up, down) ? BAD : coinFrom(goers.get(d), up, down);
    }

    int misses(int d, int up, int down, int most) {
        if (noGoer(d) || noChance(up, down) || most < 0 || most > 1000) {
            return BAD;
        }
        int missed = 0;
        while (missed < most && coinFrom(goers.get(d), up, down) == 0) {
            missed++;
        }
        return missed;
    }

    int hits(int d, int up, int down, int n) {
        if (noGoer(d) || noChance(up, down) || n < 0 || n > 1000) {
            return BAD;
        }
        int sum = 0;
        for (int i = 0; i < n; i++) {
            sum += coinFrom(goers.get(d), up, down);
        }
        return sum;
    }

    long mask(int d, int up, int down, int n) {
        if (noGoer(d) || noChance(up, down) || n < 1 || n > 64) {
            return 0;
        }
        long all = 0;
        for (int i = 0; i < n; i++) {
            all += (long) coinFrom(goers.get(d), up, down) << i;
        }
        return all;
    }

    private long digit(Goer g, List<Long> deviate, int j) {
        while (deviate.size() <= j) {
            deviate.add(take(g));
        }
        return deviate.get(j);
    }

    private boolean less(Goer g, List<Long> a, List<Long> b) {
        for (int j = 0; j < 4; j++) {
            long da = digit(g, a, j);
            long db = digit(g, b, j);
            if (da != db) {
                return da < db;
            }
        }
        return false;
    }

    private boolean half(Goer g) {
        List<Long> a = new ArrayList<>();
        if (digit(g, a, 0) >= 2147483648L) {
            return true;
        }
        while (true) {
            List<Long> b = new ArrayList<>();
            if (!less(g, b, a)) {
                return false;
            }
            a = new ArrayList<>();
            if (!less(g, a, b)) {
                return true;
            }
        }
    }

    private int chain(Goer g, List<Long> x, int k) {
        List<Long> y = x;
        int n = 0;
        while (true) {
            List<Long> z = new ArrayList<>();
            if (!less(g, z, y)) {
                return n;
            }
            long f = belowFrom(g, 2L * k + 2);
            if (f == 0) {
                return n;
            }
            if (f == 1 && !less(g, new ArrayList<>(), x)) {
                return n;
            }
            y = z;
            n++;
        }
    }

    long normal(int d) {
        if (noGoer(d)) {
            return 0;
        }
        Goer g = goers.get(d);
        again:
        while (true) {
            int k = 0;
            while (half(g)) {
                k++;
            }
            for (int i = 0; i < k * (k - 1); i++) {
                if (!half(g)) {
                    continue again;
                }
            }
            List<Long> x = new ArrayList<>();
            for (int i = 0; i < k + 1; i++) {
                if (chain(g, x, k) % 2 == 1) {
                    continue again;
                }
            }
            long size = k * 4294967296L + digit(g, x, 0);
            return bitsFrom(g, 1) == 1 ? -size : size;
        }
    }

    int permutation(int d, int n) {
        if (noGoer(d) || n < 0 || n > 200) {
            return BAD;
        }
        row = new ArrayList<>();
        for (int i = 0; i < n; i++) {
            row.add(i);
        }
        for (int i = n - 1; i > 0; i--) {
            Collections.swap(row, i, (int) belowFrom(goers.get(d), i + 1));
        }
        return n;
    }

    int subset(int d, int n, int m) {
        if (noGoer(d) || n < 0 || n > 1000000 || m < 0 || m > 200 || m > n) {
            return BAD;
        }
        TreeSet<Integer> set = new TreeSet<>();
        for (int j = n - m; j < n; j++) {
            if (!set.add((int) belowFrom(goers.get(d), j + 1))) {
                set.add(j);
            }
        }
        row = new ArrayList<>(set);
        return m;
    }

    int at(int i) {
        if (i < 0 || i >= row.size()) {
            throw new ArrayIndexOutOfBoundsException();
        }
        return row.get(i);
    }

    long weight(int i, long w) {
        if (i < 0 || i > 31 || w < 0 || w > 1000000000000L) {
            return BAD;
        }
        long was = weights[i];
        weights[i] = w;
        return was;
    }

    int choose(int d) {
        if (noGoer(d)) {
            return BAD;
        }
        long[] upTo = new long[32];
        long sum = 0;
        for (int i = 0; i < 32; i++) {
            sum += weights[i];
            upTo[i] = sum;
        }
        if (sum == 0) {
            return NONE;
        }
        long v = belowFrom(goers.get(d), sum);
        int i = 0;
        while (upTo[i] <= v) {
            i++;
        }
        return i;
    }

    private static int walk(long key, int stream, int m, int number) {
        int size = 1 << m;
        int left = number / size;
        int right = number % size;
        for (int j = 0; j < 6; j++) {
            int mixed = left ^ (four(key, stream, 2, j * 4294967296L + right)[0] & (size - 1));
            left = right;
            right = mixed;
        }
        return left * size + right;
    }

    int secret(int key, int stream, int n, int i) {
        if (noKey(key) || stream < 0 || n < 1 || n > 1073741824 || i < 0 || i >= n) {
            return BAD;
        }
        int m = 1;
        while (Math.pow(4, m) < n) {
            m++;
        }
        int number = walk(keys.get(key), stream, m, i);
        while (number >= n) {
            number = walk(keys.get(key), stream, m, number);
        }
        return number;
    }

    /** By search: for small n alone. */
    int back(int key, int stream, int n, int place) {
        if (noKey(key) || stream < 0 || n < 1 || n > 1073741824 || place < 0 || place >= n) {
            return BAD;
        }
        int i = 0;
        while (secret(key, stream, n, i) != place) {
            i++;
        }
        return i;
    }

    int count(int what) {
        return what == 0 ? keys.size() : what == 1 ? goers.size() : what == 2 ? row.size() : BAD;
    }
}
