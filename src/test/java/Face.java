/** The calls of the document's face, of the desk that is tested and of the slow one. */
interface Face {
    int pointer(int t);

    int array(int t, int n);

    int record(int kind);

    int field(int r, int t);

    int bits(int r, int t, int width, boolean named);

    boolean separate(int r);

    int finish(int r);

    int types();

    int size(int t);

    int align(int t);

    int members(int r);

    int member(int r, int k, int what);
}
