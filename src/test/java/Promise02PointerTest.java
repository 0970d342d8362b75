public final class Promise02PointerTest {
    public static void main(String[] args) {
        Check check = new Check();
        ordinary(check);
        openRecords(check);
        wrongTypes(check);
        fullDesk(check);
        check.end();
    }

    private static void ordinary(Check check) {
        LayoutDesk desk = new LayoutDesk();
        check.due("pointer(10)", desk.pointer(10), 11);
        check.due("size", desk.size(11), 4);
        check.due("align", desk.align(11), 4);
        check.due("pointer(0)", desk.pointer(0), 12);
        check.due("size to 0", desk.size(12), 4);
        check.due("pointer(11)", desk.pointer(11), 13);
        check.due("pointer(13)", desk.pointer(13), 14);
        check.due("pointer(10) again", desk.pointer(10), 11);
        check.due("pointer(11) again", desk.pointer(11), 13);
        check.due("types()", desk.types(), 15);
        check.due("members of a pointer", desk.members(11), -1);
        check.due("an array of 1 is no pointer", desk.array(10, 1), 15);
        check.due("pointer(10) after it", desk.pointer(10), 11);
    }

    private static void openRecords(Check check) {
        LayoutDesk desk = new LayoutDesk();
        int r = desk.record(0);
        check.due("pointer to an open record", desk.pointer(r), 12);
        check.due("field of it", desk.field(r, 12), 0);
        check.due("finish", desk.finish(r), 4);
        check.due("pointer to it finished", desk.pointer(r), 12);
        check.due("pointer to another of its kind", desk.pointer(desk.record(0)), 14);
    }

    private static void wrongTypes(Check check) {
        LayoutDesk desk = new LayoutDesk();
        check.due("pointer(11)", desk.pointer(11), -1);
        for (int t : Desks.NO_TYPES) {
            check.due("pointer(" + t + ")", desk.pointer(t), -1);
        }
        check.due("types()", desk.types(), 11);
    }

    private static void fullDesk(Check check) {
        LayoutDesk desk = new LayoutDesk();
        int first = desk.pointer(2);
        Desks.fillTo(desk, 299);
        check.due("the last type", desk.pointer(3), 299);
        check.due("one more", desk.pointer(4), -2);
        check.due("to the last", desk.pointer(299), -2);
        check.due("one that there is", desk.pointer(2), first);
        check.due("the last again", desk.pointer(3), 299);
        check.due("no type", desk.pointer(300), -1);
        check.due("types()", desk.types(), 300);
    }
}
