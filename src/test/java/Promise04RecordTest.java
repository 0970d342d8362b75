public final class Promise04RecordTest {
    public static void main(String[] args) {
        Check check = new Check();
        ordinary(check);
        kinds(check);
        fullDesk(check);
        check.end();
    }

    private static void ordinary(Check check) {
        LayoutDesk desk = new LayoutDesk();
        check.due("record(0)", desk.record(0), 11);
        check.due("record(0) again is new", desk.record(0), 12);
        check.due("record(1)", desk.record(1), 13);
        check.due("types()", desk.types(), 14);
        check.due("size, open", desk.size(11), 0);
        check.due("align, open", desk.align(11), 0);
        check.due("members, open", desk.members(13), 0);
        check.due("separate, open", desk.separate(12), true);
        desk.field(11, 1);
        desk.field(11, 1);
        desk.field(13, 1);
        desk.field(13, 1);
        check.due("second place in a struct", desk.member(11, 1, 0), 1);
        check.due("second place in a union", desk.member(13, 1, 0), 0);
        check.due("the other struct has none", desk.members(12), 0);
    }

    private static void kinds(Check check) {
        LayoutDesk desk = new LayoutDesk();
        int[] kinds = {-1, 2, 3, Integer.MIN_VALUE, Integer.MAX_VALUE};
        for (int kind : kinds) {
            check.due("record(" + kind + ")", desk.record(kind), -1);
        }
        check.due("types()", desk.types(), 11);
    }

    private static void fullDesk(Check check) {
        LayoutDesk desk = new LayoutDesk();
        for (int i = 11; i < 300; i++) {
            check.due("record", desk.record(i % 2), i);
        }
        check.due("one more struct", desk.record(0), -2);
        check.due("one more union", desk.record(1), -2);
        check.due("another kind", desk.record(2), -1);
        check.due("types()", desk.types(), 300);
    }
}
