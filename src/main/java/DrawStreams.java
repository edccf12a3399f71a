/**
 * Random draws by counting. A WORD is a function of a KEY, a STREAM and its place alone; DRAWERS go
 * along a STREAM and turn its WORDS into bits, numbers, coins, normals, rows and choices. What each
 * call promises, and the words in capitals, stand in the document, DOC.md.
 */
public final class DrawStreams {
    public static final int BAD = -1, FULL = -2, NONE = -3;

    private static final int MOST_KEYS = 16;
    private static final int MOST_DRAWERS = 12;
    private static final int MOST_COINS = 1000;
    private static final int MOST_IN_ROW = 200;
    private static final int MOST_SPAN = 1000000;
    private static final int WEIGHTS = 32;
    private static final long MOST_WEIGHT = 1000000000000L;
    private static final long LAST_PLACE = 1L << 61;
    private static final int MOST_ORDERED = 1 << 30;

    private static final int SORT_WORDS = 0;
    private static final int SORT_KEYS = 1;
    private static final int SORT_ORDERS = 2;

    private static final long LOW_32 = 0xFFFFFFFFL;
    private static final int ROUNDS_OF_A_WALK = 6;
    private static final int MOST_HALF_WIDTH = 15;

    // Loops that end by chance alone stop here; to come this far is beyond what any run can meet.
    private static final int MOST_TURNS = 1000000;
    private static final int MOST_WHOLE = 1000;

    private final Block block = new Block();
    private final Normals normals = new Normals();
    private final long[] keys = new long[MOST_KEYS];
    private int keyCount;
    private final Drawer[] drawers = new Drawer[MOST_DRAWERS];
    private int drawerCount;
    private final int[] row = new int[MOST_IN_ROW];
    private int rowSize;
    private final long[] weights = new long[WEIGHTS];

    public DrawStreams() {
    }

    public int key(long k) {
        if (keyCount >= MOST_KEYS) {
            return FULL;
        }
        keys[keyCount] = k;
        keyCount++;
        return keyCount - 1;
    }

    public int split(int key, int part) {
        if (!isKey(key)) {
            return BAD;
        }
        if (keyCount >= MOST_KEYS) {
            return FULL;
        }
        block.make(keys[key], 0, SORT_KEYS, part);
        keys[keyCount] = (block.part(0) << 32) | block.part(1);
        keyCount++;
        return keyCount - 1;
    }

    public long bitsOf(int key) {
        return isKey(key) ? keys[key] : BAD;
    }

    public long word(int key, int stream, long i) {
        if (!isKey(key) || stream < 0 || i < 0) {
            return BAD;
        }
        block.make(keys[key], stream, SORT_WORDS, i >>> 2);
        return block.part((int) (i & 3));
    }

    public int drawer(int key, int stream) {
        if (!isKey(key) || stream < 0) {
            return BAD;
        }
        if (drawerCount >= MOST_DRAWERS) {
            return FULL;
        }
        drawers[drawerCount] = new Drawer(block, key, keys[key], stream);
        drawerCount++;
        return drawerCount - 1;
    }

    public int place(int d, long place) {
        Drawer drawer = drawerOf(d);
        if (drawer == null || place < 0 || place > LAST_PLACE) {
            return BAD;
        }
        drawer.place = place;
        return 1;
    }

    public long told(int d, int what) {
        Drawer drawer = drawerOf(d);
        if (drawer == null) {
            return BAD;
        }
        switch (what) {
            case 0:
                return drawer.place;
            case 1:
                return drawer.rejected;
            case 2:
                return drawer.keyNumber;
            case 3:
                return drawer.stream;
            default:
                return BAD;
        }
    }

    public boolean same(int d, int e) {
        Drawer one = drawerOf(d);
        Drawer other = drawerOf(e);
        if (one == null || other == null) {
            return false;
        }
        return one.keyBits == other.keyBits && one.stream == other.stream && one.place == other.place;
    }

    public long bits(int d, int n) {
        Drawer drawer = drawerOf(d);
        if (drawer == null || n < 0 || n > 64) {
            return BAD;
        }
        return drawer.takeBits(n);
    }

    public long below(int d, long span) throws ArithmeticException {
        Drawer drawer = drawerOf(d);
        if (drawer == null || span < 0) {
            return BAD;
        }
        if (span == 0) {
            throw new ArithmeticException("nothing is below 0");
        }
        return drawer.takeBelow(span);
    }

    public double real(int d) {
        Drawer drawer = drawerOf(d);
        if (drawer == null) {
            return -1.0;
        }
        return (double) drawer.takeBits(53) / (double) (1L << 53);
    }

    public float single(int d) {
        Drawer drawer = drawerOf(d);
        if (drawer == null) {
            return -1.0f;
        }
        return (float) drawer.takeBits(24) / (float) (1L << 24);
    }

    public int coin(int d, int up, int down) {
        Drawer drawer = drawerOf(d);
        if (drawer == null || !isChance(up, down)) {
            return BAD;
        }
        return drawer.flip(up, down) ? 1 : 0;
    }

    public int misses(int d, int up, int down, int most) {
        Drawer drawer = drawerOf(d);
        if (drawer == null || !isChance(up, down) || most < 0 || most > MOST_COINS) {
            return BAD;
        }
        for (int missed = 0; missed < most; missed++) {
            if (drawer.flip(up, down)) {
                return missed;
            }
        }
        return most;
    }

    public int hits(int d, int up, int down, int n) {
        Drawer drawer = drawerOf(d);
        if (drawer == null || !isChance(up, down) || n < 0 || n > MOST_COINS) {
            return BAD;
        }
        int hit = 0;
        for (int i = 0; i < n; i++) {
            if (drawer.flip(up, down)) {
                hit++;
            }
        }
        return hit;
    }

    public long mask(int d, int up, int down, int n) {
        Drawer drawer = drawerOf(d);
        if (drawer == null || !isChance(up, down) || n < 1 || n > 64) {
            return 0;
        }
        long trues = 0;
        for (int i = 0; i < n; i++) {
            if (drawer.flip(up, down)) {
                trues |= 1L << i;
            }
        }
        return trues;
    }

    public long normal(int d) {
        Drawer drawer = drawerOf(d);
        if (drawer == null) {
            return 0;
        }
        for (int turn = 0; turn < MOST_TURNS; turn++) {
            int whole = normals.countHalves(drawer);
            if (normals.allHalves(drawer, whole * (whole - 1)) && normals.fractionFits(drawer, whole)) {
                return normals.signed(drawer, whole);
            }
        }
        return 0;
    }

    public int permutation(int d, int n) {
        Drawer drawer = drawerOf(d);
        if (drawer == null || n < 0 || n > MOST_IN_ROW) {
            return BAD;
        }
        for (int i = 0; i < n; i++) {
            row[i] = i;
        }
        for (int i = n - 1; i >= 1; i--) {
            changePlaces(i, (int) drawer.takeBelow(i + 1));
        }
        rowSize = n;
        return n;
    }

    public int subset(int d, int n, int m) {
        Drawer drawer = drawerOf(d);
        if (drawer == null || n < 0 || n > MOST_SPAN || m < 0 || m > MOST_IN_ROW || m > n) {
            return BAD;
        }
        for (int size = 0; size < m; size++) {
            int j = n - m + size;
            int t = (int) drawer.takeBelow(j + 1);
            if (!putRising(size, t)) {
                // All that is there is below j, so that the end is its place.
                row[size] = j;
            }
        }
        rowSize = m;
        return m;
    }

    public int at(int i) throws ArrayIndexOutOfBoundsException {
        if (i < 0 || i >= rowSize) {
            throw new ArrayIndexOutOfBoundsException("no such number in the row");
        }
        return row[i];
    }

    public long weight(int i, long w) {
        if (i < 0 || i >= WEIGHTS || w < 0 || w > MOST_WEIGHT) {
            return BAD;
        }
        long was = weights[i];
        weights[i] = w;
        return was;
    }

    public int choose(int d) {
        Drawer drawer = drawerOf(d);
        if (drawer == null) {
            return BAD;
        }
        long sum = 0;
        for (int i = 0; i < WEIGHTS; i++) {
            sum += weights[i];
        }
        if (sum == 0) {
            return NONE;
        }
        long left = drawer.takeBelow(sum);
        for (int i = 0; i < WEIGHTS; i++) {
            if (left < weights[i]) {
                return i;
            }
            left -= weights[i];
        }
        return NONE;
    }

    public int secret(int key, int stream, int n, int i) {
        if (!isInOrder(key, stream, n, i)) {
            return BAD;
        }
        int half = halfWidth(n);
        int number = i;
        // The walk is a permutation, so that it comes back to i itself before the turns run out.
        for (int turn = 0; turn < 1 << (2 * half); turn++) {
            number = walked(keys[key], stream, half, number);
            if (number < n) {
                return number;
            }
        }
        return BAD;
    }

    public int back(int key, int stream, int n, int place) {
        if (!isInOrder(key, stream, n, place)) {
            return BAD;
        }
        int half = halfWidth(n);
        int number = place;
        for (int turn = 0; turn < 1 << (2 * half); turn++) {
            number = walkedBack(keys[key], stream, half, number);
            if (number < n) {
                return number;
            }
        }
        return BAD;
    }

    public int count(int what) {
        switch (what) {
            case 0:
                return keyCount;
            case 1:
                return drawerCount;
            case 2:
                return rowSize;
            default:
                return BAD;
        }
    }

    private boolean isKey(int key) {
        return key >= 0 && key < keyCount;
    }

    private Drawer drawerOf(int d) {
        return d >= 0 && d < drawerCount ? drawers[d] : null;
    }

    private static boolean isChance(int up, int down) {
        return down >= 1 && up >= 0 && up <= down;
    }

    private boolean isInOrder(int key, int stream, int n, int number) {
        return isKey(key) && stream >= 0 && n >= 1 && n <= MOST_ORDERED && number >= 0 && number < n;
    }

    private void changePlaces(int i, int j) {
        int kept = row[i];
        row[i] = row[j];
        row[j] = kept;
    }

    /** Puts a number among the first ones of the row, which rise; false if it is there already. */
    private boolean putRising(int size, int number) {
        int spot = size;
        while (spot > 0 && row[spot - 1] > number) {
            spot--;
        }
        if (spot > 0 && row[spot - 1] == number) {
            return false;
        }
        for (int i = size; i > spot; i--) {
            row[i] = row[i - 1];
        }
        row[spot] = number;
        return true;
    }

    /** How many bits each part of a number has in a SECRET ORDER of n. */
    private static int halfWidth(int n) {
        int half = 1;
        while (half < MOST_HALF_WIDTH && 1 << (2 * half) < n) {
            half++;
        }
        return half;
    }

    private int walked(long keyBits, int stream, int half, int number) {
        int left = number >>> half;
        int right = number & ((1 << half) - 1);
        for (int j = 0; j < ROUNDS_OF_A_WALK; j++) {
            int turned = left ^ scatter(keyBits, stream, half, j, right);
            left = right;
            right = turned;
        }
        return (left << half) | right;
    }

    private int walkedBack(long keyBits, int stream, int half, int number) {
        int left = number >>> half;
        int right = number & ((1 << half) - 1);
        for (int j = ROUNDS_OF_A_WALK - 1; j >= 0; j--) {
            int turned = right ^ scatter(keyBits, stream, half, j, left);
            right = left;
            left = turned;
        }
        return (left << half) | right;
    }

    private int scatter(long keyBits, int stream, int half, int j, int right) {
        block.make(keyBits, stream, SORT_ORDERS, ((long) j << 32) | right);
        return (int) (block.part(0) & ((1L << half) - 1));
    }

    /** The four WORDS x0 .. x3 that come of a KEY, a STREAM, a sort and a number. */
    private static final class Block {
        private long x0;
        private long x1;
        private long x2;
        private long x3;
        private long madeKey;
        private long madeNumber;
        private int madeStream;
        private int madeSort = -1;

        void make(long keyBits, int stream, int sort, long number) {
            // Four neighbours of a stream share a block: what was made last often serves again.
            if (sort == madeSort && number == madeNumber && stream == madeStream && keyBits == madeKey) {
                return;
            }
            madeKey = keyBits;
            madeStream = stream;
            madeSort = sort;
            madeNumber = number;
            x0 = number & LOW_32;
            x1 = number >>> 32;
            x2 = stream;
            x3 = sort;
            long k0 = keyBits & LOW_32;
            long k1 = keyBits >>> 32;
            for (int round = 0; round < 10; round++) {
                long p = 3528531795L * x0;
                long q = 3449720151L * x2;
                x0 = (q >>> 32) ^ x1 ^ k0;
                x1 = q & LOW_32;
                x2 = (p >>> 32) ^ x3 ^ k1;
                x3 = p & LOW_32;
                k0 = (k0 + 2654435769L) & LOW_32;
                k1 = (k1 + 3144134277L) & LOW_32;
            }
        }

        long part(int which) {
            switch (which) {
                case 0:
                    return x0;
                case 1:
                    return x1;
                case 2:
                    return x2;
                default:
                    return x3;
            }
        }
    }

    /** What goes along a STREAM of a KEY, and takes its WORDS. */
    private static final class Drawer {
        final int keyNumber;
        final long keyBits;
        final int stream;
        long place;
        long rejected;
        private final Block block;

        Drawer(Block block, int keyNumber, long keyBits, int stream) {
            this.block = block;
            this.keyNumber = keyNumber;
            this.keyBits = keyBits;
            this.stream = stream;
        }

        long takeWord() {
            block.make(keyBits, stream, SORT_WORDS, place >>> 2);
            long taken = block.part((int) (place & 3));
            place++;
            return taken;
        }

        long takeBits(int n) {
            if (n > 32) {
                long high = takeWord();
                long low = takeWord();
                return ((high << 32) | low) >>> (64 - n);
            }
            return n > 0 ? takeWord() >>> (32 - n) : 0;
        }

        long takeBelow(long span) {
            int n = 0;
            while (n < 63 && 1L << n < span) {
                n++;
            }
            for (int turn = 0; turn < MOST_TURNS; turn++) {
                long drawn = takeBits(n);
                if (drawn < span) {
                    return drawn;
                }
                rejected++;
            }
            return 0;
        }

        /** A COIN of up / down. */
        boolean flip(int up, int down) {
            if (up <= 0) {
                return false;
            }
            if (up >= down) {
                return true;
            }
            long rest = up;
            for (int turn = 0; turn < MOST_TURNS; turn++) {
                long scaled = rest << 32;
                long q = scaled / down;
                rest = scaled % down;
                long drawn = takeWord();
                if (drawn != q) {
                    return drawn < q;
                }
                if (rest == 0) {
                    return false;
                }
            }
            return false;
        }
    }

    /** A row of digits, each taken from a DRAWER when it is first asked for. */
    private static final class Deviate {
        private static final int DIGITS = 4;
        private final long[] digits = new long[DIGITS];
        private int known;

        /** The same object as a new DEVIATE, none of its digits being taken. */
        Deviate renewed() {
            known = 0;
            return this;
        }

        long firstDigit(Drawer source) {
            return digit(0, source);
        }

        boolean less(Deviate other, Drawer source) {
            for (int j = 0; j < DIGITS; j++) {
                long mine = digit(j, source);
                long its = other.digit(j, source);
                if (mine != its) {
                    return mine < its;
                }
            }
            return false;
        }

        private long digit(int j, Drawer source) {
            // Digits are asked for from 0 on, so that no more than one is ever wanting.
            if (j == known) {
                digits[j] = source.takeWord();
                known++;
            }
            return digits[j];
        }
    }

    /** The steps of a NORMAL; its DEVIATES are made once and renewed for each use. */
    private static final class Normals {
        private final Deviate x = new Deviate();
        private final Deviate r = new Deviate();
        private final Deviate evenLink = new Deviate();
        private final Deviate oddLink = new Deviate();
        private final Deviate a = new Deviate();
        private final Deviate b = new Deviate();

        int countHalves(Drawer source) {
            int k = 0;
            while (k < MOST_WHOLE && half(source)) {
                k++;
            }
            return k;
        }

        boolean allHalves(Drawer source, int times) {
            for (int i = 0; i < times; i++) {
                if (!half(source)) {
                    return false;
                }
            }
            return true;
        }

        boolean fractionFits(Drawer source, int whole) {
            x.renewed();
            for (int i = 0; i <= whole; i++) {
                if (chainLength(source, whole) % 2 != 0) {
                    return false;
                }
            }
            return true;
        }

        long signed(Drawer source, int whole) {
            long size = ((long) whole << 32) | x.firstDigit(source);
            return source.takeBits(1) == 1 ? -size : size;
        }

        private boolean half(Drawer source) {
            if (a.renewed().firstDigit(source) >= 2147483648L) {
                return true;
            }
            for (int turn = 0; turn < MOST_TURNS; turn++) {
                if (!b.renewed().less(a, source)) {
                    return false;
                }
                if (!a.renewed().less(b, source)) {
                    return true;
                }
            }
            return false;
        }

        /** How many DEVIATES fall, each below the one before, from x on: n of the document. */
        private int chainLength(Drawer source, int whole) {
            Deviate y = x;
            int n = 0;
            while (n < MOST_TURNS) {
                // y is the link before, so that the two take turns and neither is lost too early.
                Deviate z = n % 2 == 0 ? evenLink : oddLink;
                if (!z.renewed().less(y, source)) {
                    return n;
                }
                long f = source.takeBelow(2 * whole + 2);
                if (f == 0 || (f == 1 && !r.renewed().less(x, source))) {
                    return n;
                }
                y = z;
                n++;
            }
            return n;
        }
    }
}
