/** Promises 6 to 9: drawer, place, told, same. */
public final class DrawersTest {
    private static final Due DUE = new Due("DrawersTest");

    public static void main(String[] args) {
        drawers();
        drawersAreFull();
        places();
        orderOfAskingChangesNothing();
        told();
        same();
        DUE.end();
    }

    private static void drawers() {
        DrawStreams x = new DrawStreams();
        DUE.is("drawer without keys", x.drawer(0, 0), DrawStreams.BAD);
        x.key(10);
        x.key(11);
        DUE.is("drawer(0, 5)", x.drawer(0, 5), 0);
        DUE.is("drawer(1, most)", x.drawer(1, Integer.MAX_VALUE), 1);
        DUE.is("drawer(0, 5) again", x.drawer(0, 5), 2);
        DUE.is("drawer(2, 0)", x.drawer(2, 0), DrawStreams.BAD);
        DUE.is("drawer(-1, 0)", x.drawer(-1, 0), DrawStreams.BAD);
        DUE.is("drawer(0, -1)", x.drawer(0, -1), DrawStreams.BAD);
        DUE.is("drawer(0, least)", x.drawer(0, Integer.MIN_VALUE), DrawStreams.BAD);
        DUE.is("count(1)", x.count(1), 3);
        for (int d = 0; d < 3; d++) {
            DUE.is("PLACE at first", x.told(d, 0), 0);
            DUE.is("REJECTED at first", x.told(d, 1), 0);
        }
        DUE.is("its first word", x.bits(1, 32), Model.wordOf(11, Integer.MAX_VALUE, 0));
        DUE.is("each has its own PLACE", x.bits(0, 32), Model.wordOf(10, 5, 0));
        DUE.is("each has its own PLACE", x.bits(0, 32), Model.wordOf(10, 5, 1));
        DUE.is("each has its own PLACE", x.bits(2, 32), Model.wordOf(10, 5, 0));
    }

    private static void drawersAreFull() {
        DrawStreams x = new DrawStreams();
        x.key(3);
        for (int i = 0; i < 12; i++) {
            DUE.is("drawer " + i, x.drawer(0, i), i);
        }
        DUE.is("drawer, the 13th", x.drawer(0, 0), DrawStreams.FULL);
        DUE.is("BAD is told before FULL: key", x.drawer(1, 0), DrawStreams.BAD);
        DUE.is("BAD is told before FULL: stream", x.drawer(0, -1), DrawStreams.BAD);
        DUE.is("count(1)", x.count(1), 12);
        DUE.is("told(12, 0)", x.told(12, 0), DrawStreams.BAD);
        DUE.is("told(11, 3)", x.told(11, 3), 11);
    }

    private static void places() {
        DrawStreams x = new DrawStreams();
        x.key(8);
        x.drawer(0, 2);
        long last = 1L << 61;
        DUE.is("place(0, 2 to the 61)", x.place(0, last), 1);
        DUE.is("told(0, 0)", x.told(0, 0), last);
        DUE.is("place(0, 2 to the 61 and 1)", x.place(0, last + 1), DrawStreams.BAD);
        DUE.is("place(0, -1)", x.place(0, -1), DrawStreams.BAD);
        DUE.is("place(0, most)", x.place(0, Long.MAX_VALUE), DrawStreams.BAD);
        DUE.is("place(0, least)", x.place(0, Long.MIN_VALUE), DrawStreams.BAD);
        DUE.is("place(1, 0)", x.place(1, 0), DrawStreams.BAD);
        DUE.is("place(-1, 0)", x.place(-1, 0), DrawStreams.BAD);
        DUE.is("refusals change nothing", x.told(0, 0), last);
        DUE.is("the word there", x.bits(0, 32), Model.wordOf(8, 2, last));
        DUE.is("the PLACE goes on", x.told(0, 0), last + 1);
        DUE.is("the word behind it", x.bits(0, 32), Model.wordOf(8, 2, last + 1));
        DUE.is("place(0, 0)", x.place(0, 0), 1);
        DUE.is("the first word", x.bits(0, 32), x.word(0, 2, 0));
        DUE.is("place(0, 7)", x.place(0, 7), 1);
        DUE.is("word 7", x.bits(0, 32), x.word(0, 2, 7));
        DUE.is("word 8", x.bits(0, 32), x.word(0, 2, 8));
    }

    private static void orderOfAskingChangesNothing() {
        DrawStreams x = new DrawStreams();
        x.key(21);
        x.key(22);
        x.drawer(0, 1);
        x.drawer(1, 1);
        x.drawer(0, 2);
        for (int i = 0; i < 40; i++) {
            for (int d = 0; d < 3; d++) {
                DUE.is("word " + i + " of drawer " + d, x.bits(d, 32), Model.wordOf(d == 1 ? 22 : 21, d == 2 ? 2 : 1, i));
            }
            DUE.is("secret in between", x.secret(0, 1, 10, i % 10), x.secret(0, 1, 10, i % 10));
        }
    }

    private static void told() {
        DrawStreams x = new DrawStreams();
        x.key(-1);
        x.key(77);
        x.drawer(1, 9);
        x.drawer(0, 0);
        x.bits(0, 64);
        DUE.is("told(0, 0)", x.told(0, 0), 2);
        DUE.is("told(0, 2)", x.told(0, 2), 1);
        DUE.is("told(1, 2)", x.told(1, 2), 0);
        DUE.is("told(0, 3)", x.told(0, 3), 9);
        DUE.is("told(0, 4)", x.told(0, 4), DrawStreams.BAD);
        DUE.is("told(0, -1)", x.told(0, -1), DrawStreams.BAD);
        DUE.is("told(2, 0)", x.told(2, 0), DrawStreams.BAD);
        DUE.is("told(-1, 0)", x.told(-1, 0), DrawStreams.BAD);
        long tries = 0;
        for (int i = 0; i < 150; i++) {
            long before = x.told(0, 0);
            x.below(0, 5);
            tries += x.told(0, 0) - before;
        }
        DUE.is("REJECTED is what was taken in vain", x.told(0, 1), tries - 150);
        DUE.holds("some were rejected", tries > 160);
        long rejected = x.told(0, 1);
        x.place(0, 0);
        DUE.is("place() leaves REJECTED", x.told(0, 1), rejected);
        DUE.is("the other drawer's REJECTED", x.told(1, 1), 0);
    }

    private static void same() {
        DrawStreams x = new DrawStreams();
        x.key(4);
        x.key(4);
        x.key(5);
        x.drawer(0, 1);
        x.drawer(1, 1);
        x.drawer(2, 1);
        x.drawer(0, 2);
        DUE.holds("same(0, 0)", x.same(0, 0));
        DUE.holds("same(0, 1): keys of like bits", x.same(0, 1));
        DUE.holds("same(1, 0)", x.same(1, 0));
        DUE.holds("not same(0, 2): another key", !x.same(0, 2));
        DUE.holds("not same(0, 3): another stream", !x.same(0, 3));
        DUE.holds("not same(0, 4)", !x.same(0, 4));
        DUE.holds("not same(4, 0)", !x.same(4, 0));
        DUE.holds("not same(4, 4)", !x.same(4, 4));
        DUE.holds("not same(-1, 0)", !x.same(-1, 0));
        DUE.holds("not same(0, -1)", !x.same(0, -1));
        DUE.holds("not same(-1, -1)", !x.same(-1, -1));
        x.bits(0, 32);
        DUE.holds("not same(0, 1): another place", !x.same(0, 1));
        x.bits(1, 1);
        DUE.holds("same(0, 1) again", x.same(0, 1));
        for (int i = 0; i < 50; i++) {
            x.below(0, 5);
        }
        DUE.holds("REJECTED is another", x.told(0, 1) != x.told(1, 1));
        x.place(0, 1);
        DUE.holds("same(0, 1), REJECTED being another", x.same(0, 1));
    }
}
