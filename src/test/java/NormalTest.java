/** Promise 18: normal. */
public final class NormalTest {
    private static final Due DUE = new Due("NormalTest");

    public static void main(String[] args) {
        knownNormals();
        refused();
        ties();
        halves();
        likeTheModel();
        likeTheBell();
        DUE.end();
    }

    private static void knownNormals() {
        DrawStreams x = new DrawStreams();
        x.key(42);
        x.drawer(0, 1);
        long[] want = {-3056353436L, 527477511L, 542729946L, 12006699L, -3774448516L};
        for (long w : want) {
            DUE.is("normal(0)", x.normal(0), w);
        }
        DUE.is("told(0, 0)", x.told(0, 0), 63);
    }

    private static void refused() {
        DrawStreams x = new DrawStreams();
        DUE.is("normal(0) without drawers", x.normal(0), 0);
        x.key(42);
        x.drawer(0, 1);
        DUE.is("normal(1)", x.normal(1), 0);
        DUE.is("normal(-1)", x.normal(-1), 0);
        DUE.is("nothing was taken", x.told(0, 0), 0);
    }

    /** Places, found by search, where two first digits are alike: the ones behind them tell. */
    private static void ties() {
        // Of HALF: the digits behind are b's and a's. At the first place b is LESS by them, at the second not.
        long[] ofHalf = {90368549948L, 103954776844L};
        for (long place : ofHalf) {
            DUE.is("two digits alike", Model.wordOf(1, 0, place), Model.wordOf(1, 0, place + 1));
            DUE.holds("HALF goes on there", Model.wordOf(1, 0, place) < 2147483648L);
            likeTheModelFrom(1, 0, place);
        }
        // Of the chain, HALF being false at once: z and x have like first digits.
        long[] ofChain = {12592213376L, 14369044368L, 35734458924L};
        for (long place : ofChain) {
            DUE.is("two digits alike", Model.wordOf(1, 0, place + 2), Model.wordOf(1, 0, place + 3));
            likeTheModelFrom(1, 0, place);
        }
    }

    /** Places, found by search, with the first digit at which HALF is true at once, and the one before it. */
    private static void halves() {
        DUE.is("the digit of a half", Model.wordOf(1, 0, 6980200512L), 2147483648L);
        likeTheModelFrom(1, 0, 6980200512L);
        DUE.is("the digit before", Model.wordOf(1, 0, 3036154571L), 2147483647L);
        likeTheModelFrom(1, 0, 3036154571L);
    }

    private static void likeTheModelFrom(long key, int stream, long place) {
        DrawStreams x = new DrawStreams();
        Model y = new Model();
        x.key(key);
        y.key(key);
        x.drawer(0, stream);
        y.drawer(0, stream);
        x.place(0, place);
        y.place(0, place);
        DUE.is("normal at " + place, x.normal(0), y.normal(0));
        DUE.is("PLACE from " + place, x.told(0, 0), y.told(0, 0));
        DUE.is("REJECTED from " + place, x.told(0, 1), y.told(0, 1));
    }

    private static void likeTheModel() {
        long rejected = 0;
        for (int key = 0; key < 100; key++) {
            DrawStreams x = new DrawStreams();
            Model y = new Model();
            x.key(key * 1234567891011L);
            y.key(key * 1234567891011L);
            x.drawer(0, key);
            y.drawer(0, key);
            for (int i = 0; i < 150; i++) {
                DUE.is("normal(0)", x.normal(0), y.normal(0));
                DUE.is("PLACE", x.told(0, 0), y.told(0, 0));
                DUE.is("REJECTED", x.told(0, 1), y.told(0, 1));
            }
            rejected += x.told(0, 1);
        }
        DUE.holds("BELOW rejects in normals too", rejected > 100);
    }

    /** Mean, spread and tails of 40000: wide bounds, which a wrong step of a NORMAL would leave. */
    private static void likeTheBell() {
        int many = 40000;
        double sum = 0;
        double squares = 0;
        int beyondOne = 0;
        int beyondTwo = 0;
        DrawStreams x = null;
        for (int i = 0; i < many; i++) {
            if (i % 400 == 0) {
                x = new DrawStreams();
                x.key(i);
                x.drawer(0, 7);
            }
            double v = x.normal(0) / 4294967296.0;
            sum += v;
            squares += v * v;
            beyondOne += v > 1 || v < -1 ? 1 : 0;
            beyondTwo += v > 2 || v < -2 ? 1 : 0;
        }
        DUE.holds("mean near 0: " + sum / many, Math.abs(sum / many) < 0.02);
        DUE.holds("spread near 1: " + squares / many, Math.abs(squares / many - 1) < 0.03);
        DUE.holds("beyond 1: " + beyondOne, Math.abs(beyondOne / (double) many - 0.3173) < 0.01);
        DUE.holds("beyond 2: " + beyondTwo, Math.abs(beyondTwo / (double) many - 0.0455) < 0.005);
    }
}
