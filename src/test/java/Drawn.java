/** Objects with a drawer that stands where a test wants it, and what such a drawer took. */
final class Drawn {
    final DrawStreams x = new DrawStreams();
    private final long from;

    /** Key 0 has these bits; drawer 0 goes along a stream of it, from a place on. */
    Drawn(long keyBits, int stream, long place) {
        x.key(keyBits);
        x.drawer(0, stream);
        x.place(0, place);
        from = place;
    }

    /** Key 1, stream 0: the stream of most edges, whose places were found by search. */
    static Drawn at(long place) {
        return new Drawn(1, 0, place);
    }

    long taken() {
        return x.told(0, 0) - from;
    }

    long rejected() {
        return x.told(0, 1);
    }

    String row() {
        StringBuilder all = new StringBuilder();
        for (int i = 0; i < x.count(2); i++) {
            all.append(i == 0 ? "" : " ").append(x.at(i));
        }
        return all.toString();
    }
}
