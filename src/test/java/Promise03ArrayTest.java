public final class Promise03ArrayTest {
    public static void main(String[] args) {
        Check check = new Check();
        ordinary(check);
        edges(check);
        wrong(check);
        fullDesk(check);
        check.end();
    }

    private static void ordinary(Check check) {
        LayoutDesk desk = new LayoutDesk();
        check.due("array(3, 5)", desk.array(3, 5), 11);
        check.due("size", desk.size(11), 10);
        check.due("align", desk.align(11), 2);
        check.due("array(3, 6)", desk.array(3, 6), 12);
        check.due("array(4, 5)", desk.array(4, 5), 13);
        check.due("array(3, 5) again", desk.array(3, 5), 11);
        check.due("array(11, 7)", desk.array(11, 7), 14);
        check.due("size of rows", desk.size(14), 70);
        check.due("align of rows", desk.align(14), 2);
        check.due("array(8, 2)", desk.array(8, 2), 15);
        check.due("its size", desk.size(15), 16);
        check.due("its align", desk.align(15), 4);
        int pointer = desk.pointer(0);
        int pointers = desk.array(pointer, 3);
        check.due("size of pointers", desk.size(pointers), 12);
        check.due("align of pointers", desk.align(pointers), 4);
        check.due("types()", desk.types(), 18);
        check.due("members of an array", desk.members(11), -1);
    }

    private static void edges(Check check) {
        LayoutDesk desk = new LayoutDesk();
        check.due("array(1, 1)", desk.array(1, 1), 11);
        check.due("its size", desk.size(11), 1);
        check.due("array(1, 524288)", desk.array(1, 524288), 12);
        check.due("its size", desk.size(12), 524288);
        check.due("array(3, 262144)", desk.array(3, 262144), 13);
        check.due("array(3, 262145)", desk.array(3, 262145), -3);
        check.due("array(10, 65536)", desk.array(10, 65536), 14);
        check.due("array(10, 65537)", desk.array(10, 65537), -3);
        check.due("array(12, 2)", desk.array(12, 2), -3);
        check.due("array(12, 8192), 2 to the 32nd bytes", desk.array(12, 8192), -3);
        check.due("array(12, 524288)", desk.array(12, 524288), -3);
        check.due("array(12, 1)", desk.array(12, 1), 15);
        check.due("types()", desk.types(), 16);
    }

    private static void wrong(Check check) {
        LayoutDesk desk = new LayoutDesk();
        int[] lengths = {0, -1, 524289, Integer.MIN_VALUE, Integer.MAX_VALUE};
        for (int n : lengths) {
            check.due("array(1, " + n + ")", desk.array(1, n), -1);
            check.due("array(0, " + n + ")", desk.array(0, n), -1);
        }
        for (int t : Desks.NO_TYPES) {
            check.due("array(" + t + ", 1)", desk.array(t, 1), -1);
        }
        check.due("array(11, 1)", desk.array(11, 1), -1);
        check.due("array(0, 524288)", desk.array(0, 524288), -2);
        int r = desk.record(1);
        check.due("array of an open record", desk.array(r, 2), -2);
        desk.field(r, 7);
        check.due("array of it with a member", desk.array(r, 2), -2);
        desk.finish(r);
        check.due("array of it finished", desk.array(r, 2), 12);
        check.due("its size", desk.size(12), 16);
        check.due("types()", desk.types(), 13);
    }

    private static void fullDesk(Check check) {
        LayoutDesk desk = new LayoutDesk();
        int first = desk.array(2, 9);
        int open = desk.record(0);
        Desks.fillTo(desk, 299);
        check.due("the last type", desk.array(3, 3), 299);
        check.due("one more", desk.array(3, 4), -4);
        check.due("one that there is", desk.array(2, 9), first);
        check.due("the last again", desk.array(3, 3), 299);
        check.due("too great", desk.array(3, 524288), -3);
        check.due("without size", desk.array(open, 1), -2);
        check.due("no type", desk.array(300, 1), -1);
        check.due("types()", desk.types(), 300);
    }
}
