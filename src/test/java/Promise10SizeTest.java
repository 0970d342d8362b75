public final class Promise10SizeTest {
    public static void main(String[] args) {
        Check check = new Check();
        LayoutDesk desk = new LayoutDesk();
        check.due("type 0", desk.size(0), 0);
        check.due("type 3", desk.size(3), 2);
        check.due("type 10", desk.size(10), 8);
        check.due("pointer", desk.size(desk.pointer(10)), 4);
        check.due("array", desk.size(desk.array(10, 5)), 40);
        int r = desk.record(0);
        int u = desk.record(1);
        check.due("open struct", desk.size(r), 0);
        check.due("open union", desk.size(u), 0);
        desk.field(r, 10);
        desk.bits(u, 5, 3, true);
        check.due("open struct with a member", desk.size(r), 0);
        check.due("open union with a member", desk.size(u), 0);
        desk.finish(r);
        desk.finish(u);
        check.due("struct", desk.size(r), 8);
        check.due("union", desk.size(u), 4);
        check.due("the next number", desk.size(u + 1), -1);
        for (int no : Desks.NO_TYPES) {
            check.due("size(" + no + ")", desk.size(no), -1);
        }
        // 285 arrays of bytes fill the desk, of the lengths 1000 to 1284.
        Desks.fillTo(desk, 300);
        check.due("size(299)", desk.size(299), 1284);
        check.due("size(300)", desk.size(300), -1);
        check.end();
    }
}
