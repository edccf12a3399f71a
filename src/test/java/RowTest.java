import java.util.Arrays;

/** Promises 19 to 21 and 26: permutation, subset, at, count. */
public final class RowTest {
    private static final Due DUE = new Due("RowTest");
    private static final long KEY = 5;

    private long place;

    public static void main(String[] args) {
        knownRows();
        permutations();
        subsets();
        edges();
        refused();
        counts();
        DUE.end();
    }

    private static DrawStreams withDrawer(int stream) {
        DrawStreams x = new DrawStreams();
        x.key(KEY);
        x.drawer(0, stream);
        return x;
    }

    private static int[] rowOf(DrawStreams x) {
        int[] row = new int[x.count(2)];
        for (int i = 0; i < row.length; i++) {
            row[i] = x.at(i);
        }
        return row;
    }

    private static void isRow(String call, DrawStreams x, int... want) {
        int[] got = rowOf(x);
        DUE.holds(call + " made " + Arrays.toString(got) + ", due is " + Arrays.toString(want), Arrays.equals(got, want));
    }

    private static void knownRows() {
        DrawStreams x = withDrawer(0);
        DUE.is("permutation(0, 6)", x.permutation(0, 6), 6);
        isRow("permutation(0, 6)", x, 1, 3, 4, 5, 2, 0);
        DUE.is("subset(0, 10, 4)", x.subset(0, 10, 4), 4);
        isRow("subset(0, 10, 4)", x, 0, 2, 3, 5);
        DUE.is("subset(0, 3, 3)", x.subset(0, 3, 3), 3);
        isRow("subset(0, 3, 3)", x, 0, 1, 2);
        x.permutation(0, 200);
        x.place(0, 0);
        DUE.is("permutation(0, 6) behind other rows", x.permutation(0, 6), 6);
        isRow("permutation(0, 6) behind other rows", x, 1, 3, 4, 5, 2, 0);
    }

    /** BELOW by the words of the stream, from this test's own place on. */
    private int below(int stream, int span) {
        int n = 32 - Integer.numberOfLeadingZeros(span - 1);
        while (n > 0) {
            long drawn = Model.wordOf(KEY, stream, place) >> (32 - n);
            place++;
            if (drawn < span) {
                return (int) drawn;
            }
        }
        return 0;
    }

    private static void permutations() {
        int[] sizes = {1, 2, 3, 5, 17, 199, 200};
        for (int n : sizes) {
            RowTest own = new RowTest();
            int[] want = new int[n];
            for (int i = 0; i < n; i++) {
                want[i] = i;
            }
            for (int i = n - 1; i >= 1; i--) {
                int j = own.below(n, i + 1);
                int kept = want[i];
                want[i] = want[j];
                want[j] = kept;
            }
            DrawStreams x = withDrawer(n);
            DUE.is("permutation(0, " + n + ")", x.permutation(0, n), n);
            isRow("permutation(0, " + n + ")", x, want);
            DUE.is("PLACE", x.told(0, 0), own.place);
            DUE.is("REJECTED", x.told(0, 1), own.place - (n - 1));
        }
    }

    private static void subsets() {
        int[][] sizes = {{1, 1}, {2, 1}, {7, 3}, {10, 9}, {30, 30}, {200, 200}, {201, 200}, {250, 200}, {1000000, 200}, {1000000, 1}};
        for (int[] size : sizes) {
            int n = size[0];
            int m = size[1];
            RowTest own = new RowTest();
            boolean[] in = new boolean[n];
            for (int j = n - m; j < n; j++) {
                int t = own.below(n, j + 1);
                in[in[t] ? j : t] = true;
            }
            int[] want = new int[m];
            int filled = 0;
            for (int t = 0; t < n; t++) {
                if (in[t]) {
                    want[filled++] = t;
                }
            }
            DrawStreams x = withDrawer(n);
            DUE.is("subset(0, " + n + ", " + m + ")", x.subset(0, n, m), m);
            isRow("subset(0, " + n + ", " + m + ")", x, want);
            DUE.is("PLACE", x.told(0, 0), own.place);
        }
    }

    private static void edges() {
        DrawStreams x = withDrawer(0);
        isRow("a new object", x);
        DUE.is("permutation(0, 1)", x.permutation(0, 1), 1);
        isRow("permutation(0, 1)", x, 0);
        DUE.is("subset(0, 1, 1)", x.subset(0, 1, 1), 1);
        isRow("subset(0, 1, 1)", x, 0);
        DUE.is("subset(0, 0, 0)", x.subset(0, 0, 0), 0);
        isRow("subset(0, 0, 0)", x);
        DUE.is("nothing was taken", x.told(0, 0), 0);
        x.permutation(0, 9);
        long taken = x.told(0, 0);
        DUE.is("subset(0, 1000000, 0)", x.subset(0, 1000000, 0), 0);
        isRow("subset(0, 1000000, 0)", x);
        x.permutation(0, 9);
        DUE.is("permutation(0, 0)", x.permutation(0, 0), 0);
        isRow("permutation(0, 0)", x);
        DUE.holds("the words go on", x.told(0, 0) > taken);
        x.permutation(0, 200);
        x.permutation(0, 3);
        DUE.is("count(2)", x.count(2), 3);
        DUE.isThrown("at(3) behind a longer row", () -> x.at(3), "ArrayIndexOutOfBoundsException");
        DUE.isThrown("at(-1)", () -> x.at(-1), "ArrayIndexOutOfBoundsException");
        DUE.isThrown("at(200)", () -> x.at(200), "ArrayIndexOutOfBoundsException");
        DUE.isThrown("at(least)", () -> x.at(Integer.MIN_VALUE), "ArrayIndexOutOfBoundsException");
        DUE.isThrown("at(most)", () -> x.at(Integer.MAX_VALUE), "ArrayIndexOutOfBoundsException");
        DUE.isThrown("at(2)", () -> x.at(2), "nothing");
    }

    private static void refused() {
        DrawStreams x = withDrawer(0);
        x.permutation(0, 6);
        long taken = x.told(0, 0);
        int[] sizes = {-1, 201, Integer.MIN_VALUE, Integer.MAX_VALUE};
        for (int n : sizes) {
            DUE.is("permutation(0, " + n + ")", x.permutation(0, n), DrawStreams.BAD);
        }
        DUE.is("permutation(1, 3)", x.permutation(1, 3), DrawStreams.BAD);
        DUE.is("permutation(-1, 3)", x.permutation(-1, 3), DrawStreams.BAD);
        int[][] wrong = {{0, -1, 0}, {0, -1, -1}, {0, 1000001, 5}, {0, 10, -1}, {0, 10, 11}, {0, 0, 1}, {0, 300, 201}, {1, 10, 3}, {-1, 10, 3},
            {0, Integer.MAX_VALUE, 3}, {0, Integer.MIN_VALUE, 0}, {0, 10, Integer.MAX_VALUE}, {0, 10, Integer.MIN_VALUE}};
        for (int[] w : wrong) {
            DUE.is("subset(" + w[0] + ", " + w[1] + ", " + w[2] + ")", x.subset(w[0], w[1], w[2]), DrawStreams.BAD);
        }
        isRow("refusals change nothing: the row", x, 1, 3, 4, 5, 2, 0);
        DUE.is("refusals change nothing: PLACE", x.told(0, 0), taken);
    }

    private static void counts() {
        DrawStreams x = withDrawer(0);
        x.key(1);
        x.key(2);
        x.drawer(1, 1);
        x.subset(0, 50, 20);
        DUE.is("count(0)", x.count(0), 3);
        DUE.is("count(1)", x.count(1), 2);
        DUE.is("count(2)", x.count(2), 20);
        int[] wrong = {-1, 3, Integer.MIN_VALUE, Integer.MAX_VALUE};
        for (int what : wrong) {
            DUE.is("count(" + what + ")", x.count(what), DrawStreams.BAD);
        }
    }
}
