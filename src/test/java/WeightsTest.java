/** Promises 22 and 23: weight, choose. */
public final class WeightsTest {
    private static final Due DUE = new Due("WeightsTest");
    private static final long MOST = 1000000000000L;

    public static void main(String[] args) {
        weights();
        weightsRefused();
        knownChoices();
        choicesByWords();
        greatWeights();
        nothingToChoose();
        DUE.end();
    }

    private static DrawStreams withDrawer(long k) {
        DrawStreams x = new DrawStreams();
        x.key(k);
        x.drawer(0, 0);
        return x;
    }

    private static void weights() {
        DrawStreams x = new DrawStreams();
        for (int i = 0; i < 32; i++) {
            DUE.is("weight " + i + " at first", x.weight(i, i + 1), 0);
        }
        for (int i = 31; i >= 0; i--) {
            DUE.is("weight " + i + " then", x.weight(i, MOST), i + 1);
        }
        DUE.is("weight(7, 0)", x.weight(7, 0), MOST);
        DUE.is("weight(7, 3)", x.weight(7, 3), 0);
        DUE.is("weight(8, 3)", x.weight(8, 3), MOST);
    }

    private static void weightsRefused() {
        DrawStreams x = new DrawStreams();
        x.weight(0, 11);
        x.weight(31, 12);
        int[] wrong = {-1, 32, Integer.MIN_VALUE, Integer.MAX_VALUE};
        for (int i : wrong) {
            DUE.is("weight(" + i + ", 1)", x.weight(i, 1), DrawStreams.BAD);
        }
        long[] out = {-1, MOST + 1, Long.MIN_VALUE, Long.MAX_VALUE};
        for (long w : out) {
            DUE.is("weight(0, " + w + ")", x.weight(0, w), DrawStreams.BAD);
        }
        DUE.is("refusals change nothing", x.weight(0, 5), 11);
        DUE.is("refusals change nothing", x.weight(31, 5), 12);
    }

    private static void knownChoices() {
        DrawStreams x = withDrawer(9);
        x.weight(1, 3);
        x.weight(4, 1);
        int[] want = {4, 1, 4, 4};
        for (int w : want) {
            DUE.is("choose(0)", x.choose(0), w);
        }
    }

    /** Weights 0, 2, 0, 5, 1, 0 ..: eight together, so that the three highest bits of a word choose. */
    private static void choicesByWords() {
        DrawStreams x = withDrawer(50);
        x.weight(1, 2);
        x.weight(3, 5);
        x.weight(4, 1);
        int[] byBits = {1, 1, 3, 3, 3, 3, 3, 4};
        int[] seen = new int[5];
        for (int i = 0; i < 100; i++) {
            int want = byBits[(int) (Model.wordOf(50, 0, i) >> 29)];
            seen[want]++;
            DUE.is("choose(0)", x.choose(0), want);
        }
        DUE.holds("all of them", seen[1] > 0 && seen[3] > 0 && seen[4] > 0);
        DUE.is("PLACE", x.told(0, 0), 100);
        x.weight(3, 0);
        x.weight(1, 0);
        x.weight(4, 0);
        x.weight(31, 1);
        DUE.is("the last alone", x.choose(0), 31);
        DUE.is("nothing is taken for a sum of 1", x.told(0, 0), 100);
        x.weight(31, 2);
        x.weight(0, 1);
        long rejected = x.told(0, 1);
        for (int i = 0; i < 60; i++) {
            long place = x.told(0, 0);
            while (Model.wordOf(50, 0, place) >> 30 == 3) {
                place++;
                rejected++;
            }
            DUE.is("choose(0)", x.choose(0), Model.wordOf(50, 0, place) >> 30 == 0 ? 0 : 31);
            DUE.is("PLACE", x.told(0, 0), place + 1);
            DUE.is("REJECTED", x.told(0, 1), rejected);
        }
        DUE.holds("a choice rejects too", rejected > 5);
    }

    private static void greatWeights() {
        DrawStreams x = withDrawer(51);
        Model y = new Model();
        y.key(51);
        y.drawer(0, 0);
        for (int i = 0; i < 32; i++) {
            x.weight(i, MOST);
            y.weight(i, MOST);
        }
        for (int i = 0; i < 200; i++) {
            DUE.is("choose(0)", x.choose(0), y.choose(0));
        }
        DUE.is("PLACE", x.told(0, 0), y.told(0, 0));
        DUE.is("REJECTED", x.told(0, 1), y.told(0, 1));
    }

    private static void nothingToChoose() {
        DrawStreams x = withDrawer(52);
        DUE.is("choose(0), all 0", x.choose(0), DrawStreams.NONE);
        DUE.is("choose(1), all 0: BAD is told first", x.choose(1), DrawStreams.BAD);
        x.weight(3, 4);
        DUE.is("choose(1)", x.choose(1), DrawStreams.BAD);
        DUE.is("choose(-1)", x.choose(-1), DrawStreams.BAD);
        x.weight(3, 0);
        DUE.is("choose(0), all 0 again", x.choose(0), DrawStreams.NONE);
        DUE.is("nothing was taken", x.told(0, 0), 0);
    }
}
