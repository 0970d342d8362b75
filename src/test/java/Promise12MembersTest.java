public final class Promise12MembersTest {
    public static void main(String[] args) {
        Check check = new Check();
        for (int kind = 0; kind < 2; kind++) {
            LayoutDesk desk = new LayoutDesk();
            int r = desk.record(kind);
            int s = desk.record(kind);
            check.due("none", desk.members(r), 0);
            desk.field(r, 1);
            desk.bits(r, 5, 1, true);
            check.due("two", desk.members(r), 2);
            desk.bits(r, 5, 1, false);
            desk.separate(r);
            desk.field(r, 0);
            desk.field(r, s);
            check.due("still two", desk.members(r), 2);
            check.due("none in the other", desk.members(s), 0);
            desk.finish(r);
            check.due("two, finished", desk.members(r), 2);
            desk.field(r, 1);
            check.due("two, after a refused one", desk.members(r), 2);
            Desks.addChars(desk, s, 101);
            check.due("a hundred", desk.members(s), 100);
        }
        LayoutDesk desk = new LayoutDesk();
        check.due("members(0)", desk.members(0), -1);
        check.due("members(10)", desk.members(10), -1);
        check.due("members(11)", desk.members(11), -1);
        check.due("members of a pointer", desk.members(desk.pointer(1)), -1);
        check.due("members of an array", desk.members(desk.array(1, 1)), -1);
        for (int no : Desks.NO_TYPES) {
            check.due("members(" + no + ")", desk.members(no), -1);
        }
        check.end();
    }
}
