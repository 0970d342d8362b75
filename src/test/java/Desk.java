/** A LayoutDesk that lets no test ask more calls of it than the document speaks of. */
final class Desk implements Face {
    static final int CALLS = 512;

    private final LayoutDesk desk = new LayoutDesk();
    private int calls;

    int callsLeft() {
        return CALLS - calls;
    }

    @Override
    public int pointer(int t) {
        return next().pointer(t);
    }

    @Override
    public int array(int t, int n) {
        return next().array(t, n);
    }

    @Override
    public int record(int kind) {
        return next().record(kind);
    }

    @Override
    public int field(int r, int t) {
        return next().field(r, t);
    }

    @Override
    public int bits(int r, int t, int width, boolean named) {
        return next().bits(r, t, width, named);
    }

    @Override
    public boolean separate(int r) {
        return next().separate(r);
    }

    @Override
    public int finish(int r) {
        return next().finish(r);
    }

    @Override
    public int types() {
        return next().types();
    }

    @Override
    public int size(int t) {
        return next().size(t);
    }

    @Override
    public int align(int t) {
        return next().align(t);
    }

    @Override
    public int members(int r) {
        return next().members(r);
    }

    @Override
    public int member(int r, int k, int what) {
        return next().member(r, k, what);
    }

    private LayoutDesk next() {
        if (calls == CALLS) {
            throw new IllegalStateException("the test asks one desk for more than 512 calls");
        }
        calls++;
        return desk;
    }
}
