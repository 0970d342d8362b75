public final class Promise11AlignTest {
    public static void main(String[] args) {
        Check check = new Check();
        simple(check);
        records(check);
        wrong(check);
        check.end();
    }

    private static void simple(Check check) {
        LayoutDesk desk = new LayoutDesk();
        check.due("type 0", desk.align(0), 0);
        check.due("type 2", desk.align(2), 1);
        check.due("type 4", desk.align(4), 2);
        check.due("type 9", desk.align(9), 4);
        check.due("type 10", desk.align(10), 4);
        check.due("pointer to a byte", desk.align(desk.pointer(1)), 4);
        check.due("bytes", desk.align(desk.array(1, 8)), 1);
        check.due("rows of 8 bytes", desk.align(desk.array(desk.array(7, 2), 3)), 4);
    }

    private static void records(Check check) {
        for (int kind = 0; kind < 2; kind++) {
            LayoutDesk desk = new LayoutDesk();
            int r = desk.record(kind);
            check.due("without members", desk.align(r), 0);
            desk.field(r, 2);
            check.due("with a byte", desk.align(r), 1);
            desk.field(r, 4);
            check.due("with 2 bytes", desk.align(r), 2);
            desk.field(r, 1);
            check.due("with a byte more", desk.align(r), 2);
            desk.field(r, 0);
            desk.bits(r, 5, 33, true);
            check.due("with refused ones", desk.align(r), 2);
            desk.bits(r, 5, 1, true);
            check.due("with a bit-field", desk.align(r), 4);
            desk.field(r, 10);
            check.due("with 8 bytes", desk.align(r), 4);
            desk.finish(r);
            check.due("finished", desk.align(r), 4);
            check.due("array of it", desk.align(desk.array(r, 2)), 4);

            int s = desk.record(kind);
            desk.bits(s, 6, 1, false);
            check.due("with one unnamed bit-field", desk.align(s), 4);
            int t = desk.record(kind);
            desk.field(t, 3);
            desk.finish(t);
            check.due("finished with 2 bytes", desk.align(t), 2);
            int v = desk.record(kind);
            desk.field(v, t);
            check.due("with a record of 2", desk.align(v), 2);
        }
    }

    private static void wrong(Check check) {
        LayoutDesk desk = new LayoutDesk();
        check.due("align(11)", desk.align(11), -1);
        for (int no : Desks.NO_TYPES) {
            check.due("align(" + no + ")", desk.align(no), -1);
        }
    }
}
