public final class Promise09TypesTest {
    public static void main(String[] args) {
        Check check = new Check();
        LayoutDesk desk = new LayoutDesk();
        check.due("at first", desk.types(), 11);
        desk.pointer(1);
        check.due("with a pointer", desk.types(), 12);
        desk.array(1, 4);
        check.due("with an array", desk.types(), 13);
        int r = desk.record(0);
        check.due("with a record", desk.types(), 14);
        desk.pointer(1);
        desk.array(1, 4);
        check.due("with none made again", desk.types(), 14);
        desk.pointer(-1);
        desk.pointer(14);
        desk.array(1, 0);
        desk.array(0, 1);
        desk.array(8, 524288);
        desk.record(2);
        check.due("with refused ones", desk.types(), 14);
        desk.field(r, 1);
        desk.bits(r, 5, 1, true);
        desk.separate(r);
        desk.finish(r);
        check.due("with members", desk.types(), 14);
        Desks.fillTo(desk, 300);
        check.due("full", desk.types(), 300);
        desk.pointer(2);
        desk.array(2, 2);
        desk.record(1);
        check.due("full still", desk.types(), 300);
        check.end();
    }
}
