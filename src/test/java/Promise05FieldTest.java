public final class Promise05FieldTest {
    public static void main(String[] args) {
        Check check = new Check();
        struct(check);
        union(check);
        nested(check);
        wrong(check);
        hundred(check);
        reach(check);
        refusedKeepsUnit(check);
        check.end();
    }

    private static void struct(Check check) {
        LayoutDesk desk = new LayoutDesk();
        int r = desk.record(0);
        int[] types = {1, 3, 1, 5, 2, 10, 4, 7, 9, 1};
        int[] places = {0, 2, 4, 8, 12, 16, 24, 28, 36, 40};
        for (int k = 0; k < types.length; k++) {
            check.due("field(r, " + types[k] + ")", desk.field(r, types[k]), k);
            check.due("its place", desk.member(r, k, 0), places[k]);
            check.due("its type", desk.member(r, k, 1), types[k]);
        }
        check.due("members", desk.members(r), 10);
        check.due("finish", desk.finish(r), 44);
    }

    private static void union(Check check) {
        LayoutDesk desk = new LayoutDesk();
        int bytes = desk.array(1, 13);
        int r = desk.record(1);
        check.due("field 3", desk.field(r, 3), 0);
        check.due("align", desk.align(r), 2);
        check.due("field of 13 bytes", desk.field(r, bytes), 1);
        check.due("field 1", desk.field(r, 1), 2);
        for (int k = 0; k < 3; k++) {
            check.due("place", desk.member(r, k, 0), 0);
        }
        check.due("finish", desk.finish(r), 14);
    }

    private static void nested(Check check) {
        LayoutDesk desk = new LayoutDesk();
        int inner = desk.record(0);
        desk.field(inner, 3);
        desk.field(inner, 1);
        check.due("inner finish", desk.finish(inner), 4);
        int rows = desk.array(inner, 3);
        int outer = desk.record(0);
        check.due("byte", desk.field(outer, 1), 0);
        check.due("rows", desk.field(outer, rows), 1);
        check.due("inner", desk.field(outer, inner), 2);
        check.due("place of rows", desk.member(outer, 1, 0), 2);
        check.due("place of inner", desk.member(outer, 2, 0), 14);
        check.due("outer align", desk.align(outer), 2);
        check.due("outer finish", desk.finish(outer), 18);
    }

    private static void wrong(Check check) {
        LayoutDesk desk = new LayoutDesk();
        int r = desk.record(0);
        int other = desk.record(1);
        int bytes = desk.array(1, 2);
        int to = desk.pointer(1);
        for (int t : Desks.NO_TYPES) {
            check.due("field(r, " + t + ")", desk.field(r, t), -1);
            check.due("field(" + t + ", 1)", desk.field(t, 1), -1);
            check.due("field(" + t + ", 0)", desk.field(t, 0), -1);
        }
        int[] noRecords = {0, 5, bytes, to, to + 1};
        for (int no : noRecords) {
            check.due("field(" + no + ", 1)", desk.field(no, 1), -1);
        }
        check.due("a type that is not there yet", desk.field(r, to + 1), -1);
        check.due("type 0", desk.field(r, 0), -2);
        check.due("itself", desk.field(r, r), -2);
        check.due("another open record", desk.field(r, other), -2);
        desk.field(other, 1);
        check.due("one with a member", desk.field(r, other), -2);
        desk.finish(other);
        check.due("finished", desk.field(r, other), 0);
        check.due("into a finished one", desk.field(other, 1), -1);
        check.due("0 into a finished one", desk.field(other, 0), -1);
        check.due("members", desk.members(r), 1);
        check.due("members of the finished", desk.members(other), 1);
    }

    private static void hundred(Check check) {
        for (int kind = 0; kind < 2; kind++) {
            LayoutDesk desk = new LayoutDesk();
            int great = desk.array(1, Desks.MAX_SIZE);
            int r = desk.record(kind);
            for (int k = 0; k < 100; k++) {
                check.due("field", desk.field(r, 3), k);
            }
            check.due("the 101st", desk.field(r, 3), -3);
            check.due("the 101st, too great", desk.field(r, great), -3);
            check.due("the 101st, without size", desk.field(r, 0), -2);
            check.due("the 101st, no type", desk.field(r, 99), -1);
            check.due("members", desk.members(r), 100);
            check.due("align", desk.align(r), 2);
            check.due("place of the last", desk.member(r, 99, 0), kind == 0 ? 198 : 0);
            check.due("finish", desk.finish(r), kind == 0 ? 200 : 2);
        }
    }

    private static void reach(Check check) {
        LayoutDesk desk = new LayoutDesk();
        int r = Desks.structReachingTo(desk, 524285);
        check.due("4 bytes at 524288", desk.field(r, 5), -4);
        check.due("align as before", desk.align(r), 1);
        check.due("2 bytes at 524286", desk.field(r, 3), 1);
        check.due("its place", desk.member(r, 1, 0), 524286);
        check.due("1 byte at 524288", desk.field(r, 1), -4);
        check.due("finish", desk.finish(r), 524288);

        int s = Desks.structReachingTo(desk, 524281);
        check.due("8 bytes at 524284", desk.field(s, 8), -4);
        check.due("4 bytes at 524284", desk.field(s, 9), 1);
        check.due("members", desk.members(s), 2);

        int great = desk.array(1, Desks.MAX_SIZE);
        int u = desk.record(1);
        check.due("great in a union", desk.field(u, great), 0);
        check.due("great in it again", desk.field(u, great), 1);
        check.due("4 bytes in it", desk.field(u, 5), 2);
        check.due("finish", desk.finish(u), 524288);
        int v = desk.record(0);
        check.due("1 byte", desk.field(v, 1), 0);
        check.due("great behind it", desk.field(v, great), -4);
        check.due("finish of the byte", desk.finish(v), 1);
    }

    private static void refusedKeepsUnit(Check check) {
        LayoutDesk desk = new LayoutDesk();
        int r = desk.record(0);
        int great = desk.array(1, Desks.MAX_SIZE);
        desk.bits(r, 5, 4, true);
        check.due("too great", desk.field(r, great), -4);
        check.due("without size", desk.field(r, 0), -2);
        check.due("no type", desk.field(r, -1), -1);
        check.due("bits behind refused ones", desk.bits(r, 5, 4, true), 1);
        check.due("its place", desk.member(r, 1, 0), 0);
        check.due("its lowest bit", desk.member(r, 1, 2), 4);
    }
}
