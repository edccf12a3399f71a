/**
 * The edges of a DEVIATE, HALF and a NORMAL, sentence by sentence, at places where they are met. The
 * places were found by search; the answers due are of a program that has nothing of this project.
 */
public final class NormalEdgesTest {
    private static final Due DUE = new Due("NormalEdgesTest");

    public static void main(String[] args) {
        digits();
        firstThatDiffer();
        half();
        wholePart();
        allHalves();
        chains();
        choices();
        oddChains();
        sign();
        DUE.end();
    }

    private static void isNormal(Drawn d, String where, long want, int words, int rejected) {
        DUE.is("normal " + where, d.x.normal(0), want);
        DUE.is("words of the normal " + where, d.taken(), words);
        DUE.is("REJECTED of the normal " + where, d.rejected(), rejected);
    }

    private static void isNormal(long place, long want, int words) {
        isNormal(Drawn.at(place), "at " + place, want, words, 0);
    }

    private static void isWord(long place, long want) {
        DUE.is("word " + place, Drawn.at(0).x.word(0, 0, place), want);
    }

    private static void areAlike(long place, long other) {
        DrawStreams x = Drawn.at(0).x;
        DUE.is("words " + place + " and " + other, x.word(0, 0, place), x.word(0, 0, other));
    }

    private static void digits() {
        DUE.sentence("digits, WORDS, that are taken one by one, as they are asked for");
        // a, b, z, x, the sign: one digit of each, but two of z and of x at the second place.
        isNormal(15, -2816694913L, 5);
        isNormal(14369044368L, 305190900L, 7);
    }

    private static void firstThatDiffer() {
        DUE.sentence("for j from 0 on digit j of a, then that of b: the first that differ tell");
        // Digits 0 of a, b alike, digit 1 tells: b is not LESS, then LESS.
        areAlike(28919953629L, 28919953630L);
        isNormal(28919953629L, 317398803L, 7);
        areAlike(135592931601L, 135592931602L);
        isNormal(135592931601L, -1658239873L, 9);
        // Digits 0 and 1 alike, digit 2 tells: b, then z, is not LESS.
        long key = 364355429562598120L;
        long place = 1996420065518626308L;
        isNormal(new Drawn(key, 1466809461, place), "with b like a twice", 1790580387L, 9, 0);
        isNormal(new Drawn(key, 1466809461, place - 2), "with z like x twice", -759918620L, 9, 0);
        // The same, but LESS.
        key = -8413959498419525020L;
        place = 217709647639411456L;
        isNormal(new Drawn(key, 1604329613, place), "with b like a twice", -8016192389L, 28, 0);
        isNormal(new Drawn(key, 1604329613, place - 2), "with z like x twice", -1071929405L, 10, 0);
    }

    private static void half() {
        DUE.sentence("its digit 0 is 2147483648 or more: true");
        isWord(6980200512L, 2147483648L);
        isNormal(6980200512L, -6366260782L, 47);
        isWord(3036154571L, 2147483647L);
        isNormal(3036154571L, -3856001095L, 6);
        DUE.sentence("b a new one; b is not LESS than a: false");
        isNormal(15, -2816694913L, 5);
        isNormal(28919953629L, 317398803L, 7);
        isNormal(135592931601L, -1658239873L, 9);
        DUE.sentence("a a new one; a is not LESS than b: true");
        isNormal(52, 4980331608L, 9);
        isNormal(51587282160L, 4625270333L, 11);
        isNormal(199512583556L, 1092907840L, 9);
        DUE.sentence("else, again and again");
        isNormal(107, 472166068L, 7);
        isNormal(7952, -2481729545L, 10);
        isNormal(1287, -5581894047L, 11);
    }

    private static void wholePart() {
        DUE.sentence("k is how often HALF is true ahead of the first time that it is not");
        isNormal(15, -2816694913L, 5);
        isNormal(35, -5123438533L, 7);
        isNormal(172, 9065121871L, 11);
        isNormal(335814686L, 26130001722L, 59);
    }

    private static void allHalves() {
        DUE.sentence("k (k - 1) times HALF");
        isNormal(15, -2816694913L, 5);
        isNormal(35, -5123438533L, 7);
        isNormal(172, 9065121871L, 11);
        isNormal(731, -14026488872L, 19);
        isNormal(36477, -17456745659L, 31);
        isNormal(Drawn.at(1684317), "at 1684317", -24174644236L, 49, 1);
        DUE.sentence("if it is not true once, at once 1 again");
        isNormal(64, -1626093269L, 11);
        isNormal(63, -1626093269L, 12);
        isNormal(84, -185843497L, 14);
    }

    private static void chains() {
        DUE.sentence("x is a new DEVIATE; k + 1 times: y is x, n 0");
        isNormal(16, 3581709212L, 6);
        isNormal(95, -6981461583L, 8);
        isNormal(172, 9065121871L, 11);
        DUE.sentence("z a new one; z is not LESS than y: that is all");
        isNormal(35, -5123438533L, 7);
        // y is x, and z like it in digit 0.
        areAlike(14369044370L, 14369044371L);
        isNormal(14369044368L, 305190900L, 7);
        isNormal(111022790423L, -769594899L, 8);
        // y is another z, and z like it in digit 0.
        isNormal(14690255580L, -4026443609L, 13);
        isNormal(108664566533L, -7520255402L, 13);
    }

    private static void choices() {
        DUE.sentence("f is BELOW 2 k + 2");
        isNormal(Drawn.at(177), "at 177", 11797892748L, 21, 1);
        DUE.sentence("f 0: that is all");
        isNormal(16, 3581709212L, 6);
        isNormal(133, 8038785281L, 9);
        DUE.sentence("f 1: r is a new one; r is not LESS than x: that is all");
        isNormal(6, -2390150301L, 7);
        isNormal(149, 6203272920L, 11);
        // r and x are alike in digit 0: not LESS by digit 1, then LESS.
        isNormal(17713033544L, -3675128842L, 9);
        isNormal(112766890748L, 3150000320L, 15);
        DUE.sentence("else (as with f above 1): y is z, n 1 more");
        isNormal(220, -3012403009L, 11);
        isNormal(65, -8029000697L, 13);
        isNormal(454, -7118337667L, 14);
    }

    private static void oddChains() {
        DUE.sentence("When n is odd then: at once 1 again");
        // n is 1 at the end of the first chain, of the second one; then 3; then 2 and 4, which are even.
        isNormal(68, 501451559L, 12);
        isNormal(40, 83916331L, 13);
        isNormal(348, 2386445312L, 14);
        isNormal(315, 3272241102L, 13);
        isNormal(99, -1486683200L, 18);
        isNormal(220, -3012403009L, 11);
        isNormal(953, 8420797609L, 16);
    }

    private static void sign() {
        DUE.sentence("k 2 to the 32 and digit 0 of x, together; BITS 1: with 1 it is less than 0");
        isNormal(107, 472166068L, 7);
        isNormal(15, -2816694913L, 5);
        isNormal(41, 7208054389L, 10);
        isNormal(35, -5123438533L, 7);
        // Digit 0 of x is 0.
        isWord(109699611151L, 0);
        isNormal(109699611148L, 0, 5);
    }
}
