public final class Promise09TypesTest {
    public static void main(String[] args) {
        Sentences sentences = new Sentences();
        sentences.test("9: How many types there are.", Promise09TypesTest::count);
        sentences.test("9: .. none made again is counted", Promise09TypesTest::madeAgain);
        sentences.test("9: .. no refused one is counted", Promise09TypesTest::refused);
        sentences.test("9: .. 11 at first and 300 at most", Promise09TypesTest::bounds);
        sentences.test("9: .. asking changes nothing", Promise09TypesTest::asking);
        sentences.end();
    }

    private static void count(Check check) {
        Desk desk = new Desk();
        desk.pointer(1);
        check.due("with a pointer", desk.types(), 12);
        desk.array(1, 4);
        check.due("with an array", desk.types(), 13);
        int r = desk.record(0);
        check.due("with a record", desk.types(), 14);
        desk.field(r, 1);
        desk.bits(r, 5, 1, true);
        desk.bits(r, 5, 1, false);
        desk.separate(r);
        check.due("with members", desk.types(), 14);
        desk.finish(r);
        check.due("with a finished one", desk.types(), 14);
    }

    private static void madeAgain(Check check) {
        Desk desk = Stories.busy().tell();
        desk.pointer(Stories.FINISHED);
        desk.array(3, 5);
        check.due("types()", desk.types(), Stories.BUSY_TYPES);
        desk.record(0);
        check.due("with a record more", desk.types(), Stories.BUSY_TYPES + 1);
    }

    private static void refused(Check check) {
        Desk desk = Stories.busy().tell();
        desk.pointer(-1);
        desk.pointer(17);
        desk.array(1, 0);
        desk.array(0, 1);
        desk.array(8, 524288);
        desk.record(2);
        check.due("types()", desk.types(), Stories.BUSY_TYPES);
    }

    private static void bounds(Check check) {
        check.due("at first", new Desk().types(), 11);
        check.due("with 299", new Story().fillTo(299).tell().types(), 299);
        Desk full = Stories.full().tell();
        check.due("with 300", full.types(), 300);
        full.pointer(2);
        check.due("behind a pointer", full.types(), 300);
        full.array(2, 2);
        check.due("behind an array", full.types(), 300);
        full.record(1);
        check.due("behind a record", full.types(), 300);
    }

    private static void asking(Check check) {
        Unchanged.due(check, Stories.busy(), "types()", Desk::types, Stories.BUSY_TYPES);
        Unchanged.due(check, Stories.full(), "types()", Desk::types, 300);
    }
}
