public final class Promise13MemberTest {
    public static void main(String[] args) {
        Check check = new Check();
        ordinary(check);
        wrong(check);
        check.end();
    }

    private static void ordinary(Check check) {
        LayoutDesk desk = new LayoutDesk();
        int r = desk.record(0);
        int to = desk.pointer(r);
        desk.field(r, 3);
        desk.bits(r, 6, 10, true);
        desk.bits(r, 5, 2, false);
        desk.bits(r, 5, 11, true);
        desk.field(r, to);
        int[][] want = {{0, 3, 0, 0}, {4, 6, 0, 10}, {4, 5, 12, 11}, {8, to, 0, 0}};
        // Asked while it is open and again when it is finished.
        for (int time = 0; time < 2; time++) {
            for (int k = 0; k < 4; k++) {
                for (int what = 0; what < 4; what++) {
                    check.due("member(" + k + ", " + what + ")", desk.member(r, k, what), want[k][what]);
                }
            }
            check.due("the next", desk.member(r, 4, 0), -1);
            desk.finish(r);
        }
    }

    private static void wrong(Check check) {
        LayoutDesk desk = new LayoutDesk();
        int r = desk.record(1);
        int[] others = {-1, 4, 5, 100, Integer.MIN_VALUE, Integer.MAX_VALUE};
        for (int what = 0; what < 4; what++) {
            check.due("of an empty one", desk.member(r, 0, what), -1);
        }
        desk.bits(r, 5, 9, true);
        for (int what : others) {
            check.due("what " + what, desk.member(r, 0, what), -1);
        }
        int[] noMembers = {-1, 1, 2, 99, 100, 101, Integer.MIN_VALUE, Integer.MAX_VALUE};
        for (int k : noMembers) {
            check.due("member " + k, desk.member(r, k, 3), -1);
        }
        for (int no : Desks.NO_TYPES) {
            check.due("of " + no, desk.member(no, 0, 0), -1);
        }
        check.due("of type 5", desk.member(5, 0, 0), -1);
        check.due("of a pointer", desk.member(desk.pointer(r), 0, 1), -1);
        Desks.addChars(desk, r, 99);
        check.due("member 99", desk.member(r, 99, 1), 1);
        check.due("member 100", desk.member(r, 100, 1), -1);
    }
}
