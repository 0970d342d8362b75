public final class Promise06BitsTest {
    public static void main(String[] args) {
        Check check = new Check();
        shared(check);
        behindPlain(check);
        unnamed(check);
        union(check);
        wrong(check);
        hundred(check);
        reach(check);
        check.end();
    }

    private static void place(Check check, LayoutDesk desk, int r, int k, int... want) {
        for (int what = 0; what < 4; what++) {
            check.due("member(" + r + ", " + k + ", " + what + ")", desk.member(r, k, what), want[what]);
        }
    }

    private static void shared(Check check) {
        LayoutDesk desk = new LayoutDesk();
        int r = desk.record(0);
        check.due("3 bits", desk.bits(r, 5, 3, true), 0);
        check.due("align", desk.align(r), 4);
        check.due("28 bits", desk.bits(r, 6, 28, true), 1);
        check.due("2 bits do not fit", desk.bits(r, 6, 2, true), 2);
        check.due("1 bit goes behind them", desk.bits(r, 5, 1, true), 3);
        check.due("32 bits", desk.bits(r, 5, 32, true), 4);
        check.due("1 bit behind a full unit", desk.bits(r, 5, 1, true), 5);
        check.due("31 bits fill it", desk.bits(r, 6, 31, true), 6);
        place(check, desk, r, 0, 0, 5, 0, 3);
        place(check, desk, r, 1, 0, 6, 3, 28);
        place(check, desk, r, 2, 4, 6, 0, 2);
        place(check, desk, r, 3, 4, 5, 2, 1);
        place(check, desk, r, 4, 8, 5, 0, 32);
        place(check, desk, r, 5, 12, 5, 0, 1);
        place(check, desk, r, 6, 12, 6, 1, 31);
        check.due("finish", desk.finish(r), 16);
    }

    private static void behindPlain(Check check) {
        LayoutDesk desk = new LayoutDesk();
        int r = desk.record(0);
        desk.field(r, 1);
        check.due("behind a byte", desk.bits(r, 5, 8, true), 1);
        check.due("a byte behind the unit", desk.field(r, 1), 2);
        check.due("behind that byte", desk.bits(r, 5, 8, true), 3);
        place(check, desk, r, 1, 4, 5, 0, 8);
        place(check, desk, r, 2, 8, 1, 0, 0);
        place(check, desk, r, 3, 12, 5, 0, 8);
        check.due("finish", desk.finish(r), 16);
    }

    private static void unnamed(Check check) {
        LayoutDesk desk = new LayoutDesk();
        int r = desk.record(0);
        check.due("1 byte", desk.field(r, 1), 0);
        check.due("unnamed", desk.bits(r, 6, 7, false), 100);
        check.due("align", desk.align(r), 4);
        check.due("members", desk.members(r), 1);
        check.due("member(r, 1, 0)", desk.member(r, 1, 0), -1);
        check.due("named behind it", desk.bits(r, 6, 9, true), 1);
        place(check, desk, r, 1, 4, 6, 7, 9);
        check.due("unnamed that does not fit", desk.bits(r, 5, 17, false), 100);
        check.due("named behind that", desk.bits(r, 5, 15, true), 2);
        place(check, desk, r, 2, 8, 5, 17, 15);
        check.due("finish", desk.finish(r), 12);

        int s = desk.record(0);
        check.due("unnamed alone", desk.bits(s, 5, 1, false), 100);
        check.due("its align", desk.align(s), 4);
        check.due("a byte behind it", desk.field(s, 1), 0);
        check.due("the byte's place", desk.member(s, 0, 0), 4);
        check.due("finish", desk.finish(s), 8);
    }

    private static void union(Check check) {
        LayoutDesk desk = new LayoutDesk();
        int u = desk.record(1);
        check.due("byte", desk.field(u, 1), 0);
        check.due("5 bits", desk.bits(u, 5, 5, true), 1);
        check.due("6 bits", desk.bits(u, 6, 6, true), 2);
        check.due("unnamed", desk.bits(u, 6, 6, false), 100);
        check.due("32 bits", desk.bits(u, 6, 32, true), 3);
        place(check, desk, u, 1, 0, 5, 0, 5);
        place(check, desk, u, 2, 0, 6, 0, 6);
        place(check, desk, u, 3, 0, 6, 0, 32);
        check.due("align", desk.align(u), 4);
        check.due("finish", desk.finish(u), 4);

        int v = desk.record(1);
        check.due("byte", desk.field(v, 1), 0);
        check.due("unnamed", desk.bits(v, 5, 1, false), 100);
        check.due("finish", desk.finish(v), 4);

        int great = desk.array(1, Desks.MAX_SIZE);
        int w = desk.record(1);
        desk.field(w, great);
        check.due("bits in a great union", desk.bits(w, 5, 32, true), 1);
        check.due("finish", desk.finish(w), 524288);
    }

    private static void wrong(Check check) {
        LayoutDesk desk = new LayoutDesk();
        int r = desk.record(0);
        check.due("4 bits", desk.bits(r, 5, 4, true), 0);
        int[] widths = {0, -1, 33, Integer.MIN_VALUE, Integer.MAX_VALUE};
        for (int width : widths) {
            check.due("width " + width, desk.bits(r, 5, width, true), -2);
            check.due("unnamed, width " + width, desk.bits(r, 6, width, false), -2);
        }
        int[] types = {0, 1, 2, 3, 4, 7, 8, 9, 10, r, r + 1, -1, Integer.MIN_VALUE, Integer.MAX_VALUE};
        for (int t : types) {
            check.due("type " + t, desk.bits(r, t, 4, true), -2);
            check.due("unnamed, type " + t, desk.bits(r, t, 4, false), -2);
        }
        for (int no : Desks.NO_TYPES) {
            check.due("bits(" + no + ", 5, 4)", desk.bits(no, 5, 4, true), -1);
            check.due("bits(" + no + ", 4, 0)", desk.bits(no, 4, 0, false), -1);
        }
        check.due("bits(5, 5, 4)", desk.bits(5, 5, 4, true), -1);
        check.due("refused ones took nothing", desk.bits(r, 5, 28, true), 1);
        place(check, desk, r, 1, 0, 5, 4, 28);
        check.due("finish", desk.finish(r), 4);
        check.due("bits of a finished one", desk.bits(r, 5, 4, true), -1);
        check.due("unnamed of a finished one", desk.bits(r, 5, 4, false), -1);
        check.due("wrong ones of a finished one", desk.bits(r, 4, 0, true), -1);
    }

    private static void hundred(Check check) {
        LayoutDesk desk = new LayoutDesk();
        int r = desk.record(0);
        for (int k = 0; k < 99; k++) {
            desk.bits(r, 5, 32, true);
            desk.bits(r, 5, 1, false);
        }
        check.due("the 100th", desk.bits(r, 6, 8, true), 99);
        place(check, desk, r, 99, 788, 6, 1, 8);
        check.due("the 101st", desk.bits(r, 6, 8, true), -3);
        check.due("the 101st of a wrong type", desk.bits(r, 7, 8, true), -2);
        check.due("unnamed", desk.bits(r, 6, 23, false), 100);
        check.due("unnamed in a new unit", desk.bits(r, 6, 1, false), 100);
        check.due("members", desk.members(r), 100);
        check.due("finish", desk.finish(r), 796);
    }

    private static void reach(Check check) {
        LayoutDesk desk = new LayoutDesk();
        int r = Desks.structReachingTo(desk, 524281);
        check.due("no unit", desk.align(r), 1);
        check.due("named", desk.bits(r, 5, 30, true), 1);
        place(check, desk, r, 1, 524284, 5, 0, 30);
        check.due("3 bits, another unit", desk.bits(r, 5, 3, true), -4);
        check.due("3 bits unnamed", desk.bits(r, 5, 3, false), -4);
        check.due("2 bits", desk.bits(r, 5, 2, true), 2);
        place(check, desk, r, 2, 524284, 5, 30, 2);
        check.due("1 bit more", desk.bits(r, 5, 1, true), -4);
        check.due("members", desk.members(r), 3);
        check.due("finish", desk.finish(r), 524288);

        int s = Desks.structReachingTo(desk, 524285);
        check.due("unit at 524288", desk.bits(s, 6, 1, true), -4);
        check.due("unnamed there", desk.bits(s, 6, 1, false), -4);
        check.due("align as before", desk.align(s), 1);
        check.due("finish", desk.finish(s), 524285);

        int t = Desks.structReachingTo(desk, 524285);
        Desks.addChars(desk, t, 3);
        check.due("bits behind the last place", desk.bits(t, 5, 1, true), -4);
        Desks.addChars(desk, t, 1);
        check.due("members", desk.members(t), 4);
    }
}
