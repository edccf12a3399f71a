/** Promises 24 and 25: secret, back. */
public final class SecretTest {
    private static final Due DUE = new Due("SecretTest");
    private static final int MOST = 1073741824;

    public static void main(String[] args) {
        knownPlaces();
        smallOrders();
        greatOrders();
        ordersDiffer();
        refused();
        DUE.end();
    }

    private static void knownPlaces() {
        DrawStreams x = new DrawStreams();
        x.key(9);
        DUE.is("secret(0, 0, 10, 0)", x.secret(0, 0, 10, 0), 2);
        DUE.is("secret(0, 0, 10, 1)", x.secret(0, 0, 10, 1), 7);
        DUE.is("secret(0, 0, 10, 9)", x.secret(0, 0, 10, 9), 8);
        DUE.is("back(0, 0, 10, 0)", x.back(0, 0, 10, 0), 6);
        DUE.is("back(0, 0, 10, 1)", x.back(0, 0, 10, 1), 7);
        DUE.is("secret(0, 0, 1, 0)", x.secret(0, 0, 1, 0), 0);
        DUE.is("back(0, 0, 1, 0)", x.back(0, 0, 1, 0), 0);
        DUE.is("secret(0, 1, most, 12345)", x.secret(0, 1, MOST, 12345), 230640272);
        DUE.is("back(0, 1, most, 0)", x.back(0, 1, MOST, 0), 873885128);
    }

    /** Every order up to 80: each place once, as the model has it, and back again. */
    private static void smallOrders() {
        Model y = new Model();
        y.key(-123456789012345L);
        for (int n = 1; n <= 80; n++) {
            DrawStreams x = new DrawStreams();
            x.key(-123456789012345L);
            boolean[] met = new boolean[n];
            for (int i = 0; i < n; i++) {
                int place = x.secret(0, n, n, i);
                DUE.is("secret(0, " + n + ", " + n + ", " + i + ")", place, y.secret(0, n, n, i));
                if (place < 0 || place >= n) {
                    continue;
                }
                DUE.holds("place " + place + " once", !met[place]);
                met[place] = true;
                DUE.is("back(0, " + n + ", " + n + ", " + place + ")", x.back(0, n, n, place), i);
            }
        }
    }

    private static void greatOrders() {
        int[] sizes = {255, 256, 257, 1023, 1024, 1025, 65535, 65536, 65537, 1000000, 268435455, 268435456, 268435457, MOST - 1, MOST};
        int[] streams = {0, 3, Integer.MAX_VALUE};
        for (int n : sizes) {
            DrawStreams x = new DrawStreams();
            Model y = new Model();
            x.key(777);
            y.key(777);
            for (int stream : streams) {
                int[] numbers = {0, 1, n / 2, n - 2, n - 1};
                for (int i : numbers) {
                    int place = x.secret(0, stream, n, i);
                    DUE.is("secret(0, " + stream + ", " + n + ", " + i + ")", place, y.secret(0, stream, n, i));
                    DUE.is("and back", x.back(0, stream, n, place), i);
                    DUE.is("back first", x.secret(0, stream, n, x.back(0, stream, n, i)), i);
                }
            }
        }
    }

    private static void ordersDiffer() {
        DrawStreams x = new DrawStreams();
        x.key(1);
        x.key(2);
        x.key(1);
        int byKey = 0;
        int byStream = 0;
        for (int i = 0; i < 50; i++) {
            byKey += x.secret(0, 0, 1000, i) == x.secret(1, 0, 1000, i) ? 1 : 0;
            byStream += x.secret(0, 0, 1000, i) == x.secret(0, 1, 1000, i) ? 1 : 0;
            DUE.is("keys of like bits", x.secret(2, 0, 1000, i), x.secret(0, 0, 1000, i));
        }
        DUE.holds("another key, another order", byKey < 10);
        DUE.holds("another stream, another order", byStream < 10);
    }

    private static void refused() {
        DrawStreams x = new DrawStreams();
        DUE.is("secret without keys", x.secret(0, 0, 10, 0), DrawStreams.BAD);
        DUE.is("back without keys", x.back(0, 0, 10, 0), DrawStreams.BAD);
        x.key(9);
        int[][] wrong = {{1, 0, 10, 0}, {-1, 0, 10, 0}, {0, -1, 10, 0}, {0, Integer.MIN_VALUE, 10, 0}, {0, 0, 0, 0}, {0, 0, -1, 0},
            {0, 0, MOST + 1, 0}, {0, 0, Integer.MAX_VALUE, 0}, {0, 0, Integer.MIN_VALUE, 0}, {0, 0, 10, 10}, {0, 0, 10, -1},
            {0, 0, 10, Integer.MAX_VALUE}, {0, 0, 10, Integer.MIN_VALUE}, {0, 0, 1, 1}, {0, 0, MOST, MOST}};
        for (int[] w : wrong) {
            String told = "(" + w[0] + ", " + w[1] + ", " + w[2] + ", " + w[3] + ")";
            DUE.is("secret" + told, x.secret(w[0], w[1], w[2], w[3]), DrawStreams.BAD);
            DUE.is("back" + told, x.back(w[0], w[1], w[2], w[3]), DrawStreams.BAD);
        }
    }
}
