/**
 * The edges that "Terms" names, sentence by sentence, but for a NORMAL (NormalEdgesTest), LESS
 * (LessTest) and REFUSALS (RefusalsTest). The answers due were worked out by hand or by a program that
 * has nothing of this project; the places were found by search.
 */
public final class TermsEdgesTest {
    private static final Due DUE = new Due("TermsEdgesTest");
    private static final int BAD = DrawStreams.BAD;
    private static final int LEAST = Integer.MIN_VALUE;
    private static final int MOST = Integer.MAX_VALUE;
    private static final long LAST_PLACE = 2305843009213693952L;
    /** Where key 1, stream 0 has the least word and the greatest one. */
    private static final long PLACE_OF_0 = 364375560L;
    private static final long PLACE_OF_MOST = 6845800136L;

    public static void main(String[] args) {
        calls();
        keys();
        words();
        sorts();
        rounds();
        drawers();
        places();
        bits();
        belowWidths();
        belowAgain();
        coins();
        coinsAlike();
        secretBounds();
        secretWidths();
        secretRounds();
        secretWalks();
        theRow();
        DUE.end();
    }

    private static void calls() {
        DUE.sentence("An object is used for at most 512 calls after it has been made");
        DrawStreams x = new DrawStreams();
        x.key(1);
        x.drawer(0, 0);
        for (int call = 3; call < 511; call++) {
            x.normal(0);
        }
        DUE.is("the 511th call", x.normal(0), 883854056L);
        DUE.is("the 512th call", x.normal(0), 2758863313L);
        DrawStreams y = new DrawStreams();
        y.key(1);
        y.drawer(0, 0);
        for (int call = 3; call < 512; call++) {
            y.hits(0, 1, 3, 1000);
        }
        DUE.is("the 512th call", y.told(0, 0), 509000);
    }

    private static void keys() {
        DUE.sentence("KEYS, 16 at most");
        DrawStreams x = new DrawStreams();
        for (int i = 0; i < 15; i++) {
            x.key(i);
        }
        DUE.is("the 16th key", x.key(15), 15);
        DUE.is("the 17th", x.key(16), DrawStreams.FULL);
        DUE.is("the 17th by split", x.split(0, 0), DrawStreams.FULL);
        DUE.is("how many", x.count(0), 16);
        DUE.sentence("numbered from 0");
        DrawStreams y = new DrawStreams();
        DUE.is("the first key", y.key(7), 0);
        DUE.is("the second, like it", y.key(7), 1);
        DUE.is("the third, by split", y.split(0, 0), 2);
        DUE.sentence("are 64 bits");
        long[] bits = {0, -1, Long.MIN_VALUE, Long.MAX_VALUE};
        long[] firstWords = {1713891541L, 1923381001L, 2753305574L, 854020009L};
        for (int i = 0; i < bits.length; i++) {
            DrawStreams z = new DrawStreams();
            z.key(bits[i]);
            DUE.is("bitsOf the key " + bits[i], z.bitsOf(0), bits[i]);
            DUE.is("the first word of the key " + bits[i], z.word(0, 0, 0), firstWords[i]);
        }
    }

    private static void words() {
        DrawStreams x = Drawn.at(0).x;
        DUE.sentence("Four WORDS (of 32 bits, 0 .. 4294967295)");
        DUE.is("the least word", x.word(0, 0, PLACE_OF_0), 0);
        DUE.is("the greatest word", x.word(0, 0, PLACE_OF_MOST), 4294967295L);
        DUE.sentence("a STREAM (0 .. 2147483647)");
        DUE.is("word 0 of stream 0", x.word(0, 0, 0), 3823634032L);
        DUE.is("word 0 of the last stream", x.word(0, MOST, 0), 746135483L);
        DUE.is("word 3 of the last stream", x.word(0, MOST, 3), 507613605L);
        DUE.is("a word of stream -1", x.word(0, -1, 0), BAD);
        DUE.is("a word of stream least", x.word(0, LEAST, 0), BAD);
        DUE.is("a drawer along the last stream", x.drawer(0, MOST), 1);
        DUE.is("its first word", x.bits(1, 32), 746135483L);
        DUE.is("a drawer along stream -1", x.drawer(0, -1), BAD);
        DUE.is("a drawer along stream least", x.drawer(0, LEAST), BAD);
        DUE.sentence("x0 is the lowest 32 bits of b, x1 the highest");
        DUE.is("the first word of the last b below 2 to the 32", x.word(0, 0, 17179869180L), 7932735);
        DUE.is("the last one", x.word(0, 0, 17179869183L), 1778383437L);
        DUE.is("the first word of b = 2 to the 32", x.word(0, 0, 17179869184L), 2202007772L);
        DUE.is("the last word of all", x.word(0, 0, Long.MAX_VALUE), 2211023685L);
        DUE.sentence("p is 3528531795 x0, q 3449720151 x2 (64 bits each)");
        long[] ofGreatest = {2225462629L, 3965941779L, 1511991007L, 127004185L};
        for (int i = 0; i < 4; i++) {
            DUE.is("word " + i + " of b = 4294967295, stream most", x.word(0, MOST, 17179869180L + i), ofGreatest[i]);
        }
        DUE.sentence("WORD i of a STREAM is x(i % 4) of b = i / 4, of sort 0");
        long[] first = {3823634032L, 3842641596L, 2515673792L, 3054873127L, 2886210587L, 3754282174L, 2042657351L, 2817941651L, 1062581232L};
        for (int i = first.length - 1; i >= 0; i--) {
            DUE.is("word " + i, x.word(0, 0, i), first[i]);
        }
    }

    private static void sorts() {
        DUE.sentence("x2 the STREAM, x3 the sort");
        DrawStreams x = new DrawStreams();
        x.key(0);
        long[] ofStream1 = {2219120097L, 4035800746L, 253345875L, 2214098416L};
        for (int i = 0; i < 4; i++) {
            DUE.is("word " + i + " of stream 1, sort 0", x.word(0, 1, i), ofStream1[i]);
        }
        x.split(0, 0);
        DUE.is("part 0, sort 1", x.bitsOf(1), 3300703004617400895L);
        DUE.is("place of 0 of 4, sort 2", x.secret(0, 0, 4, 0), 2);
        DUE.is("place of 1 of 4, sort 2, stream 5", x.secret(0, 5, 4, 1), 0);
        DUE.sentence("then x0 is the highest 32 bits of q, xor x1, xor k0; x1 the lowest of q; "
            + "x2 the highest of p, xor x3, xor k1; x3 the lowest of p (all by what was before)");
        isFirst(0, 1713891541L, 3781805453L, 3159862348L, 2600524760L);
    }

    /** Parts of a key that become 0, or one less, when they are added to for the first time. */
    private static void rounds() {
        DUE.sentence("k0 the lowest 32 bits of the KEY, k1 the highest");
        isFirst(4294967295L, 4127959009L, 4211857312L, 3339500845L, 2108504476L);
        isFirst(-4294967296L, 2828195024L, 3953845148L, 2325305287L, 1655107257L);
        isFirst(4294967296L, 4259200523L, 4202584246L, 864087110L, 3637861455L);
        DUE.sentence("k0 becomes 2654435769 more, k1 3144134277, modulo 2 to the 32");
        isFirst(1640531527L, 3712199307L, 3536680724L, 3993145865L, 2918495439L);
        isFirst(1640531526L, 412917040L, 4098882626L, 930230286L, 3444421467L);
        isFirst(1150833019L << 32, 920513576L, 2061942449L, 3389610743L, 99541278L);
        isFirst(1150833018L << 32, 3186340741L, 3111291926L, 1251591742L, 3324034745L);
    }

    private static void isFirst(long keyBits, long... words) {
        DrawStreams x = new DrawStreams();
        x.key(keyBits);
        for (int i = 0; i < words.length; i++) {
            DUE.is("word " + i + " of the key " + keyBits, x.word(0, 0, i), words[i]);
        }
    }

    private static void drawers() {
        DUE.sentence("DRAWERS, 12 at most, numbered from 0");
        DrawStreams x = new DrawStreams();
        x.key(1);
        for (int i = 0; i < 12; i++) {
            DUE.is("drawer " + i, x.drawer(0, 5), i);
        }
        DUE.is("the 13th", x.drawer(0, 5), DrawStreams.FULL);
        DUE.is("how many", x.count(1), 12);
        DUE.is("the last one draws", x.bits(11, 32), x.word(0, 5, 0));
    }

    private static void places() {
        DUE.sentence("from a PLACE on (0 .. 2 to the 61)");
        DrawStreams x = Drawn.at(5).x;
        DUE.is("place(0, 0)", x.place(0, 0), 1);
        DUE.is("the word there", x.bits(0, 32), 3823634032L);
        DUE.is("place(0, 2 to the 61)", x.place(0, LAST_PLACE), 1);
        DUE.is("told", x.told(0, 0), LAST_PLACE);
        DUE.is("place(0, -1)", x.place(0, -1), BAD);
        DUE.is("place(0, 2 to the 61 and 1)", x.place(0, LAST_PLACE + 1), BAD);
        DUE.is("told", x.told(0, 0), LAST_PLACE);
        DUE.sentence("to take a WORD is to have that at the PLACE, which becomes 1 more");
        DUE.is("the word at 2 to the 61", x.bits(0, 32), 2345564117L);
        DUE.is("told", x.told(0, 0), LAST_PLACE + 1);
        DUE.is("the word behind it", x.bits(0, 32), 1224760636L);
        DUE.is("told", x.told(0, 0), LAST_PLACE + 2);
        DUE.is("place(0, 2 to the 61) again", x.place(0, LAST_PLACE), 1);
        DUE.is("the word at 2 to the 61", x.bits(0, 32), 2345564117L);
    }

    private static void bits() {
        DUE.sentence("n above 32: a WORD, behind it another one, the n highest bits of both");
        isBits(33, 7647268065L, 2);
        isBits(63, 8211191561577629534L, 2);
        isBits(64, -2024360950554292548L, 2);
        DUE.sentence("1 to 32: the n highest bits of a WORD");
        isBits(1, 1, 1);
        isBits(2, 3, 1);
        isBits(31, 1911817016L, 1);
        isBits(32, 3823634032L, 1);
        DUE.sentence("0: nothing is taken, and they are 0");
        isBits(0, 0, 0);
    }

    private static void isBits(int n, long want, int words) {
        Drawn d = Drawn.at(0);
        DUE.is("bits(0, " + n + ")", d.x.bits(0, n), want);
        DUE.is("words for " + n, d.taken(), words);
        DUE.is("rejected for " + n, d.rejected(), 0);
    }

    private static void belowWidths() {
        DUE.sentence("BELOW a span (1 at least): n is the least with 2 to the n not less than the span");
        isBelow(0, 1, 0, 0, 0);
        isBelow(0, 2, 1, 1, 0);
        isBelow(0, 3, 2, 3, 2);
        isBelow(0, 4, 3, 1, 0);
        isBelow(0, 5, 4, 3, 2);
        isBelow(0, 2147483647L, 1911817016L, 1, 0);
        isBelow(0, 2147483648L, 1911817016L, 1, 0);
        isBelow(0, 2147483649L, 2042657351L, 7, 6);
        isBelow(0, 4294967295L, 3823634032L, 1, 0);
        isBelow(0, 4294967296L, 3823634032L, 1, 0);
        isBelow(0, 4294967297L, 4085314703L, 8, 3);
        isBelow(0, 4611686018427387904L, 4105595780788814767L, 2, 0);
        isBelow(0, 4611686018427387905L, 4386573261148467273L, 8, 3);
        isBelow(0, Long.MAX_VALUE, 8211191561577629534L, 2, 0);
    }

    private static void belowAgain() {
        DUE.sentence("BITS n, again and again till they are less than the span");
        // The word at place 3 begins with 101.
        isBelow(3, 6, 5, 1, 0);
        isBelow(3, 5, 3, 4, 3);
        isBelow(PLACE_OF_MOST, 4294967296L, 4294967295L, 1, 0);
        isBelow(PLACE_OF_MOST, 4294967295L, 1348213707L, 2, 1);
        DUE.sentence("REJECTED becomes 1 more each time that they are not");
        isBelow(32, 5, 1, 5, 4);
        Drawn d = new Drawn(-3695638581300237213L, 673823716, 1554240229756227864L);
        DUE.is("63 bits, all 1", d.x.bits(0, 63), Long.MAX_VALUE);
        d.x.place(0, 1554240229756227864L);
        DUE.is("below(0, most)", d.x.below(0, Long.MAX_VALUE), 1908594034619981908L);
        DUE.is("words", d.taken(), 4);
        DUE.is("REJECTED", d.rejected(), 1);
        d.x.place(0, 1554240229756227864L);
        d.x.below(0, Long.MAX_VALUE);
        DUE.is("REJECTED then", d.rejected(), 2);
    }

    private static void isBelow(long place, long span, long want, int words, int rejected) {
        Drawn d = Drawn.at(place);
        String call = "below(0, " + span + ") at " + place;
        DUE.is(call, d.x.below(0, span), want);
        DUE.is("words of " + call, d.taken(), words);
        DUE.is("REJECTED of " + call, d.rejected(), rejected);
    }

    private static void coins() {
        DUE.sentence("up 0: false, up = down: true, nothing being taken");
        isCoin(0, 0, 1, 0, 0);
        isCoin(0, 1, 1, 1, 0);
        isCoin(0, 0, MOST, 0, 0);
        isCoin(0, MOST, MOST, 1, 0);
        DUE.sentence("q is r 2 to the 32 / down, cut, and r the rest");
        isCoin(PLACE_OF_0, 1, MOST, 1, 1);
        isCoin(PLACE_OF_0, MOST - 1, MOST, 1, 1);
        isCoin(PLACE_OF_MOST, MOST - 1, MOST, 0, 1);
        isCoin(PLACE_OF_MOST, 1, MOST, 0, 1);
        DUE.sentence("a WORD less than q: true; greater: false");
        // q is 4 up: one more than word 3, one less than word 9.
        isCoin(3, 763718282, 1 << 30, 1, 1);
        isCoin(9, 597537575, 1 << 30, 0, 1);
    }

    private static void coinsAlike() {
        DUE.sentence("like q: it goes on");
        isCoin(3, 1527436563, MOST, 0, 2);
        isCoin(4, 1443105293, MOST, 0, 2);
        isCoin(7, 1408970825, MOST, 1, 2);
        isCoin(12, 1626990544, MOST, 1, 2);
        isCoin(3, 954026261, 1341303360, 1, 3);
        isCoin(13, 67614403, 1850228624, 1, 3);
        isCoin(8, 16504649, 66712008, 0, 3);
        isCoin(9, 1099942879, 1976536241, 0, 3);
        DUE.sentence("but if r is 0: false");
        // q is 4 up, which is word 0, word 8, word 13.
        isCoin(0, 955908508, 1 << 30, 0, 1);
        isCoin(8, 265645308, 1 << 30, 0, 1);
        isCoin(13, 39238617, 1 << 30, 0, 1);
    }

    private static void isCoin(long place, int up, int down, int want, int words) {
        Drawn d = Drawn.at(place);
        String call = "coin(0, " + up + ", " + down + ") at " + place;
        DUE.is(call, d.x.coin(0, up, down), want);
        DUE.is("words of " + call, d.taken(), words);
    }

    private static DrawStreams ordered() {
        DrawStreams x = new DrawStreams();
        x.key(9);
        return x;
    }

    private static void secretBounds() {
        DUE.sentence("A SECRET ORDER of n (1 .. 1073741824)");
        DrawStreams x = ordered();
        DUE.is("secret, n 0", x.secret(0, 0, 0, 0), BAD);
        DUE.is("secret, n -1", x.secret(0, 0, -1, 0), BAD);
        DUE.is("secret, n least", x.secret(0, 0, LEAST, 0), BAD);
        DUE.is("secret, n 1", x.secret(0, 0, 1, 0), 0);
        DUE.is("secret, n 1073741824", x.secret(0, 0, 1073741824, 0), 613778709);
        DUE.is("secret, n 1073741825", x.secret(0, 0, 1073741825, 0), BAD);
        DUE.is("secret, n most", x.secret(0, 0, MOST, 0), BAD);
        DUE.is("back, n 0", x.back(0, 0, 0, 0), BAD);
        DUE.is("back, n -1", x.back(0, 0, -1, 0), BAD);
        DUE.is("back, n 1", x.back(0, 0, 1, 0), 0);
        DUE.is("back, n 1073741824", x.back(0, 0, 1073741824, 613778709), 0);
        DUE.is("back, n 1073741825", x.back(0, 0, 1073741825, 0), BAD);
        DUE.is("back, n most", x.back(0, 0, MOST, 0), BAD);
        DUE.sentence("by a KEY, a STREAM");
        DUE.is("secret, stream most", x.secret(0, MOST, 1073741824, 0), 787665180);
        DUE.is("back, stream most", x.back(0, MOST, 1073741824, 787665180), 0);
        DUE.is("secret, stream -1", x.secret(0, -1, 4, 0), BAD);
        DUE.is("back, stream -1", x.back(0, -1, 4, 0), BAD);
    }

    private static void secretWidths() {
        DUE.sentence("m is the least with 4 to the m not less than n (1 at least)");
        isOrder(1, 0);
        isOrder(2, 1, 0);
        isOrder(3, 1, 0, 2);
        isOrder(4, 1, 0, 3, 2);
        isOrder(5, 2, 1, 0, 3, 4);
        isOrder(16, 12, 7, 14, 3, 13, 6, 0, 10, 11, 8, 1, 4, 2, 9, 15, 5);
        isOrder(17, 14, 4, 0, 8, 13, 11, 7, 12, 2, 16, 9, 15, 3, 1, 6, 5, 10);
        isPlaced(268435455, 0, 111877410);
        isPlaced(268435456, 0, 111877410);
        isPlaced(268435456, 268435455, 59277423);
        isPlaced(268435457, 0, 209356498);
        isPlaced(1073741823, 1073741822, 885160482);
        isPlaced(1073741824, 1073741823, 182997043);
    }

    private static void secretRounds() {
        DUE.sentence("It is WALKED: six rounds j = 0 .. 5: left becomes the right one, right the left one xor "
            + "the lowest m bits of x0, of sort 2, b = j 2 to the 32 and the right one.");
        // Of all numbers below 4 to the 15: each is walked once.
        int[] numbers = {1, 2, 32767, 32768, 32769, 536870912, 1073741822};
        int[] places = {232531488, 1061448372, 8170950, 214385156, 824716501, 911274349, 885160482};
        for (int i = 0; i < numbers.length; i++) {
            isPlaced(1073741824, numbers[i], places[i]);
        }
    }

    private static void secretWalks() {
        DUE.sentence("it is WALKED, and again, till it is less than n");
        // Walked once, four, six, seven and ten times.
        isPlaced(268435457, 1, 232531488);
        isPlaced(268435457, 0, 209356498);
        isPlaced(268435457, 268435455, 40346839);
        isPlaced(268435457, 268435456, 248789061);
        DrawStreams x = ordered();
        DUE.is("ten times", x.secret(0, MOST, 268435457, 268435456), 191069219);
        DUE.is("and back", x.back(0, MOST, 268435457, 191069219), 268435456);
    }

    private static void isOrder(int n, int... places) {
        for (int i = 0; i < n; i++) {
            isPlaced(n, i, places[i]);
        }
    }

    private static void isPlaced(int n, int i, int place) {
        DrawStreams x = ordered();
        DUE.is("secret(0, 0, " + n + ", " + i + ")", x.secret(0, 0, n, i), place);
        DUE.is("back(0, 0, " + n + ", " + place + ")", x.back(0, 0, n, place), i);
    }

    private static void theRow() {
        DUE.sentence("THE ROW is what the latest permutation(), subset() made");
        Drawn d = Drawn.at(0);
        d.x.permutation(0, 5);
        DUE.isText("the row of permutation(0, 5)", d.row(), "0 1 3 2 4");
        d.x.place(0, 6);
        d.x.subset(0, 5, 2);
        DUE.isText("the row of subset(0, 5, 2)", d.row(), "1 4");
        d.x.subset(0, 5, 0);
        DUE.isText("the row of subset(0, 5, 0)", d.row(), "");
        d.x.place(0, 8);
        d.x.permutation(0, 2);
        DUE.isText("the row of permutation(0, 2)", d.row(), "1 0");
        DUE.sentence("(at first it is empty)");
        DrawStreams x = new DrawStreams();
        DUE.is("count(2) at first", x.count(2), 0);
        DUE.isThrown("at(0) at first", () -> x.at(0), "ArrayIndexOutOfBoundsException");
    }
}
