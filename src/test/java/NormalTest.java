/** Promise 18: normal. */
public final class NormalTest {
    private static final Due DUE = new Due("NormalTest");

    public static void main(String[] args) {
        knownNormals();
        refused();
        ties();
        likeTheModel();
        likeTheBell();
        DUE.end();
    }

    private static void knownNormals() {
        DrawStreams x = new DrawStreams();
        x.key(42);
        x.drawer(0, 1);
        long[] want = {-3056353436L, 527477511L, 542729946L, 12006699L, -3774448516L};
        for (long w : want) {
            DUE.is("normal(0)", x.normal(0), w);
        }
        DUE.is("told(0, 0)", x.told(0, 0), 63);
    }

    private static void refused() {
        DrawStreams x = new DrawStreams();
        DUE.is("normal(0) without drawers", x.normal(0), 0);
        x.key(42);
        x.drawer(0, 1);
        DUE.is("normal(1)", x.normal(1), 0);
        DUE.is("normal(-1)", x.normal(-1), 0);
        DUE.is("nothing was taken", x.told(0, 0), 0);
    }

    /** Places, found by search, where two first digits are alike: the ones behind them tell. */
    private static void ties() {
        // Of HALF: the two digits behind are b's and a's; b is LESS there, and then is not.
        like(1, 0, 90368549948L, 351157760L, 351157760L);
        like(1, 0, 103954776844L, 1554829285L, 1554829285L);
        // Of the chain, HALF being false at once: z and x have like first digits.
        likeFrom(1, 0, 12592213376L, 2);
        likeFrom(1, 0, 14369044368L, 2);
        likeFrom(1, 0, 35734458924L, 2);
    }

    private static void like(long key, int stream, long place, long one, long other) {
        DUE.is("the word there", Model.wordOf(key, stream, place), one);
        DUE.is("the word behind it", Model.wordOf(key, stream, place + 1), other);
        likeFrom(key, stream, place, 0);
    }

    private static void likeFrom(long key, int stream, long place, int first) {
        DUE.is("a tie", Model.wordOf(key, stream, place + first), Model.wordOf(key, stream, place + first + 1));
        DrawStreams x = new DrawStreams();
        Model y = new Model();
        x.key(key);
        y.key(key);
        x.drawer(0, stream);
        y.drawer(0, stream);
        x.place(0, place);
        y.place(0, place);
        DUE.is("normal at " + place, x.normal(0), y.normal(0));
        DUE.is("PLACE from " + place, x.told(0, 0), y.told(0, 0));
        DUE.is("REJECTED from " + place, x.told(0, 1), y.told(0, 1));
    }

    private static void likeTheModel() {
        long rejected = 0;
        for (int key = 0; key < 100; key++) {
            DrawStreams x = new DrawStreams();
            Model y = new Model();
            x.key(key * 1234567891011L);
            y.key(key * 1234567891011L);
            x.drawer(0, key);
            y.drawer(0, key);
            for (int i = 0; i < 150; i++) {
                DUE.is("normal(0)", x.normal(0), y.normal(0));
                DUE.is("PLACE", x.told(0, 0), y.told(0, 0));
                DUE.is("REJECTED", x.told(0, 1), y.told(0, 1));
            }
            rejected += x.told(0, 1);
        }
        DUE.holds("BELOW rejects in normals too", rejected > 100);
    }

    /** Mean, spread and tails of 40000: wide bounds, which a wrong step of a NORMAL would leave. */
    private static void likeTheBell() {
        int many = 40000;
        double sum = 0;
        double squares = 0;
        int beyondOne = 0;
        int beyondTwo = 0;
        DrawStreams x = null;
        for (int i = 0; i < many; i++) {
            if (i % 400 == 0) {
                x = new DrawStreams();
                x.key(i);
                x.drawer(0, 7);
            }
            double v = x.normal(0) / 4294967296.0;
            sum += v;
            squares += v * v;
            beyondOne += v > 1 || v < -1 ? 1 : 0;
            beyondTwo += v > 2 || v < -2 ? 1 : 0;
        }
        DUE.holds("mean near 0: " + sum / many, Math.abs(sum / many) < 0.02);
        DUE.holds("spread near 1: " + squares / many, Math.abs(squares / many - 1) < 0.03);
        DUE.holds("beyond 1: " + beyondOne, Math.abs(beyondOne / (double) many - 0.3173) < 0.01);
        DUE.holds("beyond 2: " + beyondTwo, Math.abs(beyondTwo / (double) many - 0.0455) < 0.005);
    }
}
