public final class Promise02PointerTest {
    public static void main(String[] args) {
        Sentences sentences = new Sentences();
        sentences.test("2: The pointer to a type: its number.", Promise02PointerTest::number);
        sentences.test("2: .. to an open record too", Promise02PointerTest::openRecords);
        sentences.test("2: -1 there is no such type", Promise02PointerTest::noType);
        sentences.test("2: -2 there are 300 ..", Promise02PointerTest::full);
        sentences.test("2: .. and it is none of them", Promise02PointerTest::fullWithIt);
        sentences.test("2: -1 before -2", Promise02PointerTest::fullAndNoType);
        sentences.end();
    }

    private static void number(Check check) {
        Desk desk = new Desk();
        for (int t = 0; t < 11; t++) {
            check.due("pointer(" + t + ")", desk.pointer(t), 11 + t);
            check.due("its size", desk.size(11 + t), 4);
            check.due("its align", desk.align(11 + t), 4);
            check.due("its members", desk.members(11 + t), -1);
        }
        check.due("pointer to a pointer", desk.pointer(11), 22);
        check.due("pointer to that", desk.pointer(22), 23);
        check.due("pointer to an array", desk.pointer(desk.array(7, 9)), 25);
        check.due("its size", desk.size(25), 4);
        check.due("types()", desk.types(), 26);
    }

    private static void openRecords(Check check) {
        for (int kind = 0; kind < 2; kind++) {
            Desk desk = new Desk();
            int r = desk.record(kind);
            check.due("pointer to an open record", desk.pointer(r), 12);
            check.due("its size", desk.size(12), 4);
            check.due("field of it", desk.field(r, 12), 0);
            check.due("finish", desk.finish(r), 4);
            check.due("pointer to it finished", desk.pointer(r), 12);
            check.due("pointer to another of its kind", desk.pointer(desk.record(kind)), 14);
        }
    }

    private static void noType(Check check) {
        Desk desk = new Desk();
        check.due("pointer(0), the first type", desk.pointer(0), 11);
        check.due("pointer(11), the last type", desk.pointer(11), 12);
        check.due("pointer(13), the next number", desk.pointer(13), -1);
        check.due("pointer(12), the last type", desk.pointer(12), 13);
        Unchanged.due(check, new Story(), "pointer(11) of a new desk", d -> d.pointer(11), -1);
        Unchanged.due(check, Stories.busy(), "pointer(17) of 17", d -> d.pointer(17), -1);
        for (int t : Stories.NO_TYPES) {
            Unchanged.due(check, Stories.busy(), "pointer(" + t + ")", d -> d.pointer(t), -1);
        }
    }

    private static void full(Check check) {
        Desk desk = Stories.busy().fillTo(298).tell();
        check.due("the 299th type", desk.pointer(1), 298);
        check.due("the 300th type", desk.pointer(2), 299);
        check.due("its size", desk.size(299), 4);
        check.due("the 301st type", desk.pointer(3), -2);
        check.due("types()", desk.types(), 300);
        Story full = Stories.full();
        Unchanged.due(check, full, "pointer(0) of a full desk", d -> d.pointer(0), -2);
        Unchanged.due(check, full, "pointer to a pointer", d -> d.pointer(Stories.POINTER), -2);
        Unchanged.due(check, full, "pointer to an open record", d -> d.pointer(Stories.EMPTY), -2);
        Unchanged.due(check, full, "pointer(299) of a full desk", d -> d.pointer(299), -2);
    }

    private static void fullWithIt(Check check) {
        Story full = Stories.busy().fillTo(299).then(d -> d.pointer(3));
        Unchanged.due(check, full, "an early one", d -> d.pointer(Stories.FINISHED), Stories.POINTER);
        Unchanged.due(check, full, "the last one", d -> d.pointer(3), 299);
        Unchanged.due(check, full, "one of another type", d -> d.pointer(4), -2);
    }

    private static void fullAndNoType(Check check) {
        Unchanged.due(check, Stories.full(), "pointer(300) of 300", d -> d.pointer(300), -1);
        Unchanged.due(check, Stories.full(), "pointer(-1) of 300", d -> d.pointer(-1), -1);
    }
}
