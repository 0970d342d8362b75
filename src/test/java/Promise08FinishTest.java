public final class Promise08FinishTest {
    public static void main(String[] args) {
        Check check = new Check();
        rounding(check);
        wrong(check);
        withoutMembers(check);
        greatest(check);
        check.end();
    }

    private static void rounding(Check check) {
        LayoutDesk desk = new LayoutDesk();
        int[] lead = {1, 3, 5, 8, 10};
        int[] sizes = {2, 4, 8, 12, 12};
        for (int i = 0; i < lead.length; i++) {
            int r = desk.record(0);
            desk.field(r, lead[i]);
            desk.field(r, 1);
            check.due("size while open", desk.size(r), 0);
            check.due("finish behind type " + lead[i], desk.finish(r), sizes[i]);
            check.due("size", desk.size(r), sizes[i]);
            check.due("align", desk.align(r), Math.min(4, sizes[i] / 2));
        }
        int bytes = desk.array(2, 5);
        int u = desk.record(1);
        desk.field(u, bytes);
        desk.field(u, 4);
        check.due("finish of a union", desk.finish(u), 6);
        check.due("members stay", desk.members(u), 2);
    }

    private static void wrong(Check check) {
        LayoutDesk desk = new LayoutDesk();
        int r = desk.record(0);
        desk.field(r, 6);
        check.due("finish", desk.finish(r), 4);
        check.due("finish again", desk.finish(r), -1);
        check.due("size stays", desk.size(r), 4);
        check.due("finish of an array", desk.finish(desk.array(1, 3)), -1);
        check.due("finish(0)", desk.finish(0), -1);
        for (int no : Desks.NO_TYPES) {
            check.due("finish(" + no + ")", desk.finish(no), -1);
        }
    }

    private static void withoutMembers(Check check) {
        for (int kind = 0; kind < 2; kind++) {
            LayoutDesk desk = new LayoutDesk();
            int r = desk.record(kind);
            check.due("finish of an empty one", desk.finish(r), -2);
            desk.separate(r);
            desk.bits(r, 5, 8, false);
            check.due("finish with one unnamed", desk.finish(r), -2);
            check.due("size, still open", desk.size(r), 0);
            check.due("it takes a member", desk.bits(r, 5, 8, true), 0);
            check.due("its lowest bit", desk.member(r, 0, 2), kind == 0 ? 8 : 0);
            check.due("finish", desk.finish(r), 4);
        }
    }

    private static void greatest(Check check) {
        LayoutDesk desk = new LayoutDesk();
        int r = Desks.structReachingTo(desk, 524285);
        check.due("finish without rounding", desk.finish(r), 524285);
        int bytes = desk.array(1, 524285);
        int u = desk.record(1);
        desk.field(u, bytes);
        desk.field(u, 5);
        check.due("finish rounded to the limit", desk.finish(u), 524288);
    }
}
