/** A PageWords whose calls are counted, because the document promises nothing behind the 512th. */
final class Counted {
    static final int PROMISED = 512;

    private final PageWords inner = new PageWords();
    private final int most;
    private int calls = 0;

    Counted() {
        this(PROMISED);
    }

    private Counted(int most) {
        this.most = most;
    }

    /** For the limits that 512 calls cannot reach: they are tested as they are built. */
    static Counted beyondPromise() {
        return new Counted(Integer.MAX_VALUE);
    }

    int calls() {
        return calls;
    }

    private PageWords next() {
        calls++;
        if (calls > most) {
            throw new IllegalStateException("the test makes more calls than are promised");
        }
        return inner;
    }

    int type(long bytes, int n) {
        return next().type(bytes, n);
    }

    int cut() {
        return next().cut();
    }

    int place() {
        return next().place();
    }

    int words() {
        return next().words();
    }

    int kind(int w) {
        return next().kind(w);
    }

    int number(int w) {
        return next().number(w);
    }

    int begin(int w) {
        return next().begin(w);
    }

    int texts() {
        return next().texts();
    }

    int size(int t) {
        return next().size(t);
    }

    int at(int t, int k) {
        return next().at(t, k);
    }
}
