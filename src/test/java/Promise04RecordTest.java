public final class Promise04RecordTest {
    public static void main(String[] args) {
        Sentences sentences = new Sentences();
        sentences.test("4: A new open record: its number.", Promise04RecordTest::number);
        sentences.test("4: a struct (0) or a union (1)", Promise04RecordTest::structAndUnion);
        sentences.test("4: -1 kind is another number", Promise04RecordTest::otherKinds);
        sentences.test("4: -2 there are 300", Promise04RecordTest::full);
        sentences.test("4: -1 before -2", Promise04RecordTest::fullAndOtherKind);
        sentences.end();
    }

    private static void number(Check check) {
        Desk desk = new Desk();
        for (int i = 0; i < 6; i++) {
            int r = 11 + i;
            check.due("record(" + i % 2 + ")", desk.record(i % 2), r);
            check.due("types()", desk.types(), r + 1);
            check.due("its size", desk.size(r), 0);
            check.due("its align", desk.align(r), 0);
            check.due("its members", desk.members(r), 0);
            check.due("member(r, 0, 0)", desk.member(r, 0, 0), -1);
            check.due("it is open", desk.separate(r), true);
        }
        desk.field(12, 5);
        check.due("another one's members", desk.members(14), 0);
    }

    private static void structAndUnion(Check check) {
        Desk desk = new Desk();
        int s = desk.record(0);
        int u = desk.record(1);
        for (int r = s; r <= u; r++) {
            desk.field(r, 1);
            desk.field(r, 1);
        }
        check.due("second place in a struct", desk.member(s, 1, 0), 1);
        check.due("second place in a union", desk.member(u, 1, 0), 0);
    }

    private static void otherKinds(Check check) {
        int[] kinds = {-1, -2, 2, 3, 256, 257, 65536, Integer.MIN_VALUE, Integer.MIN_VALUE + 1, Integer.MAX_VALUE};
        for (int kind : kinds) {
            Unchanged.due(check, Stories.busy(), "record(" + kind + ")", d -> d.record(kind), -1);
        }
    }

    private static void full(Check check) {
        Desk desk = new Desk();
        for (int i = 11; i < 300; i++) {
            check.due("record, of " + i + " types", desk.record(i % 2), i);
        }
        check.due("a struct more", desk.record(0), -2);
        check.due("a union more", desk.record(1), -2);
        check.due("types()", desk.types(), 300);
        check.due("the last one takes members", desk.field(299, 1), 0);
        Unchanged.due(check, Stories.full(), "record(0) of a full desk", d -> d.record(0), -2);
        Unchanged.due(check, Stories.full(), "record(1) of a full desk", d -> d.record(1), -2);
        Story records = new Story().times(289, d -> d.record(0));
        Unchanged.due(check, records, "record(0) of 289 records", d -> d.record(0), -2);
    }

    private static void fullAndOtherKind(Check check) {
        Unchanged.due(check, Stories.full(), "record(2) of a full desk", d -> d.record(2), -1);
        Unchanged.due(check, Stories.full(), "record(-1) of a full desk", d -> d.record(-1), -1);
    }
}
