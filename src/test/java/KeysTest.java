/** Promises 1 to 5: a new object, key, split, bitsOf, word. */
public final class KeysTest {
    private static final Due DUE = new Due("KeysTest");

    public static void main(String[] args) {
        newObject();
        keys();
        keysAreFull();
        splits();
        knownWords();
        wordsByPlace();
        wordEdges();
        oneApart();
        DUE.end();
    }

    private static void newObject() {
        DrawStreams x = new DrawStreams();
        for (int what = 0; what < 3; what++) {
            DUE.is("count(" + what + ") of a new object", x.count(what), 0);
        }
        DUE.is("bitsOf(0) of a new object", x.bitsOf(0), DrawStreams.BAD);
        DUE.is("word(0, 0, 0) of a new object", x.word(0, 0, 0), DrawStreams.BAD);
        DUE.is("drawer(0, 0) of a new object", x.drawer(0, 0), DrawStreams.BAD);
        DUE.is("told(0, 0) of a new object", x.told(0, 0), DrawStreams.BAD);
        DUE.isThrown("at(0) of a new object", () -> x.at(0), "ArrayIndexOutOfBoundsException");
        x.key(0);
        x.drawer(0, 0);
        DUE.is("choose(0) of a new object", x.choose(0), DrawStreams.NONE);
        for (int i = 0; i < 32; i++) {
            DUE.is("weight " + i + " of a new object", x.weight(i, 0), 0);
        }
        DrawStreams y = new DrawStreams();
        DUE.is("count(0) of another one", y.count(0), 0);
    }

    private static void keys() {
        DrawStreams x = new DrawStreams();
        long[] some = {0, 1, -1, 1, Long.MIN_VALUE, Long.MAX_VALUE};
        for (int i = 0; i < some.length; i++) {
            DUE.is("key", x.key(some[i]), i);
        }
        for (int i = 0; i < some.length; i++) {
            DUE.is("bitsOf(" + i + ")", x.bitsOf(i), some[i]);
        }
        DUE.is("bitsOf(6)", x.bitsOf(6), DrawStreams.BAD);
        DUE.is("bitsOf(-1)", x.bitsOf(-1), DrawStreams.BAD);
        DUE.is("bitsOf(least)", x.bitsOf(Integer.MIN_VALUE), DrawStreams.BAD);
        DUE.is("bitsOf(most)", x.bitsOf(Integer.MAX_VALUE), DrawStreams.BAD);
        DUE.is("count(0)", x.count(0), 6);
    }

    private static void keysAreFull() {
        DrawStreams x = new DrawStreams();
        for (int i = 0; i < 15; i++) {
            DUE.is("key " + i, x.key(100 + i), i);
        }
        DUE.is("split as the 16th", x.split(3, 8), 15);
        DUE.is("key, the 17th", x.key(5), DrawStreams.FULL);
        DUE.is("split, the 17th", x.split(0, 1), DrawStreams.FULL);
        DUE.is("split of no key, full: BAD is told first", x.split(16, 1), DrawStreams.BAD);
        DUE.is("split of key -1, full", x.split(-1, 1), DrawStreams.BAD);
        DUE.is("count(0)", x.count(0), 16);
        for (int i = 0; i < 15; i++) {
            DUE.is("bitsOf(" + i + ")", x.bitsOf(i), 100 + i);
        }
    }

    private static void splits() {
        DrawStreams x = new DrawStreams();
        DUE.is("split(0, 0) without keys", x.split(0, 0), DrawStreams.BAD);
        x.key(1);
        DUE.is("split(0, 5)", x.split(0, 5), 1);
        DUE.is("its bits", x.bitsOf(1), 1008339455829626141L);
        DUE.is("split(0, -1)", x.split(0, -1), 2);
        DUE.is("its bits", x.bitsOf(2), -1680450182562356984L);
        DUE.is("split(1, 5)", x.split(1, 5), 3);
        DUE.is("split(0, 5) again", x.split(0, 5), 4);
        DUE.is("like bits", x.bitsOf(4), x.bitsOf(1));
        DUE.is("split(5, 0)", x.split(5, 0), DrawStreams.BAD);
        int[] parts = {0, 1, Integer.MAX_VALUE, Integer.MIN_VALUE, -2};
        for (int part : parts) {
            int k = x.split(1, part);
            int[] four = Model.four(x.bitsOf(1), 0, 1, part);
            DUE.is("bits of part " + part, x.bitsOf(k), ((long) four[0] << 32) | (four[1] & 0xFFFFFFFFL));
        }
        DUE.is("the key that was split", x.bitsOf(0), 1);
        DUE.is("count(0)", x.count(0), 10);
    }

    /** What others have published of the ten rounds, for three counters and keys. */
    private static void knownWords() {
        DrawStreams x = new DrawStreams();
        x.key(0);
        long[] zeros = {0x6627e8d5L, 0xe169c58dL, 0xbc57ac4cL, 0x9b00dbd8L};
        for (int i = 0; i < 4; i++) {
            DUE.is("word(0, 0, " + i + ")", x.word(0, 0, i), zeros[i]);
        }
        DUE.is("the model", Model.four(-1, -1, -1, -1)[0] & 0xFFFFFFFFL, 0x408f276dL);
        int[] pi = Model.four(0x299f31d0_a4093822L, 0x13198a2e, 0x03707344, 0x85a308d3_243f6a88L);
        int[] want = {0xd16cfe09, 0x94fdcceb, 0x5001e420, 0x24126ea1};
        for (int i = 0; i < 4; i++) {
            DUE.is("the model, pi, " + i, pi[i], want[i]);
        }
    }

    private static void wordsByPlace() {
        DrawStreams x = new DrawStreams();
        long[] keys = {1, 0x123456789ABCDEFL, -1, Long.MIN_VALUE};
        for (long k : keys) {
            x.key(k);
        }
        int[] streams = {0, 1, 77, Integer.MAX_VALUE};
        long[] places = {0, 1, 2, 3, 4, 5, 4294967296L, 17179869183L, 17179869184L, 1L << 61, (1L << 61) + 3, Long.MAX_VALUE - 1, Long.MAX_VALUE};
        for (int round = 0; round < 2; round++) {
            for (int k = 0; k < keys.length; k++) {
                for (int stream : streams) {
                    for (long i : places) {
                        DUE.is("word(" + k + ", " + stream + ", " + i + ")", x.word(k, stream, i), Model.wordOf(keys[k], stream, i));
                    }
                }
            }
        }
        DUE.is("backwards", x.word(0, 0, 4), 2886210587L);
        DUE.is("backwards", x.word(0, 0, 1), 3842641596L);
        DUE.is("backwards", x.word(0, 0, 0), 3823634032L);
    }

    private static void wordEdges() {
        DrawStreams x = new DrawStreams();
        x.key(1);
        DUE.is("word(1, 0, 0)", x.word(1, 0, 0), DrawStreams.BAD);
        DUE.is("word(-1, 0, 0)", x.word(-1, 0, 0), DrawStreams.BAD);
        DUE.is("word(0, -1, 0)", x.word(0, -1, 0), DrawStreams.BAD);
        DUE.is("word(0, least, 0)", x.word(0, Integer.MIN_VALUE, 0), DrawStreams.BAD);
        DUE.is("word(0, 0, -1)", x.word(0, 0, -1), DrawStreams.BAD);
        DUE.is("word(0, 0, least)", x.word(0, 0, Long.MIN_VALUE), DrawStreams.BAD);
    }

    /** Askings that differ in the key alone, the stream alone, the sort alone, the place alone. */
    private static void oneApart() {
        DrawStreams x = new DrawStreams();
        long[] keys = {0, 6, 7};
        for (long k : keys) {
            x.key(k);
        }
        int[][] asked = {{1, 0}, {0, 0}, {0, 2}, {0, 0}, {0, 2}, {0, 3}, {1, 3}, {2, 3}, {0, 3}, {1, 3}, {1, 0}, {0, 0}, {2, 0}, {2, 1}};
        for (int i = 0; i < 8; i++) {
            for (int[] a : asked) {
                DUE.is("word(" + a[0] + ", " + a[1] + ", " + i + ")", x.word(a[0], a[1], i), Model.wordOf(keys[a[0]], a[1], i));
            }
        }
        int[] split = Model.four(6, 0, 1, 0);
        int[] walked = Model.four(6, 0, 2, 0);
        DUE.holds("the sorts differ", split[0] != walked[0]);
        for (int round = 0; round < 3; round++) {
            DUE.is("a word", x.word(1, 0, 0), Model.wordOf(6, 0, 0));
            DUE.is("a split behind it", x.bitsOf(x.split(1, 0)), ((long) split[0] << 32) | (split[1] & 0xFFFFFFFFL));
            DUE.is("a word behind that", x.word(1, 0, 0), Model.wordOf(6, 0, 0));
            DUE.is("a secret place", x.secret(1, 0, 4, 0), new Order(6).place(0));
            DUE.is("a word behind that", x.word(1, 0, 0), Model.wordOf(6, 0, 0));
        }
    }

    /** The secret order of 4 by a key, stream 0: one walk of one bit a part. */
    private static final class Order {
        private final long key;

        Order(long key) {
            this.key = key;
        }

        int place(int i) {
            int left = i / 2;
            int right = i % 2;
            for (long j = 0; j < 6; j++) {
                int kept = right;
                right = left ^ (Model.four(key, 0, 2, (j << 32) + right)[0] & 1);
                left = kept;
            }
            return 2 * left + right;
        }
    }
}
