public final class Promise07SeparateTest {
    public static void main(String[] args) {
        Check check = new Check();
        struct(check);
        union(check);
        wrong(check);
        check.end();
    }

    private static void struct(Check check) {
        LayoutDesk desk = new LayoutDesk();
        int r = desk.record(0);
        check.due("break at the beginning", desk.separate(r), true);
        check.due("align", desk.align(r), 0);
        check.due("members", desk.members(r), 0);
        check.due("finish", desk.finish(r), -2);
        desk.bits(r, 5, 1, true);
        check.due("break", desk.separate(r), true);
        check.due("break again", desk.separate(r), true);
        desk.bits(r, 5, 1, true);
        check.due("place behind a break", desk.member(r, 1, 0), 4);
        check.due("lowest bit behind a break", desk.member(r, 1, 2), 0);
        desk.bits(r, 5, 1, true);
        check.due("lowest bit without a break", desk.member(r, 2, 2), 1);
        desk.field(r, 1);
        check.due("break behind a byte", desk.separate(r), true);
        desk.field(r, 1);
        check.due("bytes stand as without a break", desk.member(r, 4, 0), 9);
        check.due("break at the end", desk.separate(r), true);
        check.due("members", desk.members(r), 5);
        check.due("finish", desk.finish(r), 12);
    }

    private static void union(Check check) {
        LayoutDesk desk = new LayoutDesk();
        int u = desk.record(1);
        check.due("break", desk.separate(u), true);
        desk.bits(u, 5, 7, true);
        check.due("break", desk.separate(u), true);
        desk.bits(u, 5, 7, true);
        check.due("place", desk.member(u, 1, 0), 0);
        check.due("lowest bit", desk.member(u, 1, 2), 0);
        check.due("finish", desk.finish(u), 4);
    }

    private static void wrong(Check check) {
        LayoutDesk desk = new LayoutDesk();
        for (int no : Desks.NO_TYPES) {
            check.due("separate(" + no + ")", desk.separate(no), false);
        }
        check.due("separate(5)", desk.separate(5), false);
        check.due("separate of a pointer", desk.separate(desk.pointer(5)), false);
        int r = desk.record(0);
        int s = desk.record(0);
        desk.bits(r, 5, 1, true);
        desk.separate(s);
        desk.bits(r, 5, 1, true);
        check.due("another record's break", desk.member(r, 1, 2), 1);
        desk.finish(r);
        check.due("separate of a finished one", desk.separate(r), false);
    }
}
