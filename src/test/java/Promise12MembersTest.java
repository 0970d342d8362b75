public final class Promise12MembersTest {
    public static void main(String[] args) {
        Sentences sentences = new Sentences();
        sentences.test("12: How many members record r has", Promise12MembersTest::count);
        sentences.test("12: .. 0 to 100", Promise12MembersTest::bounds);
        sentences.test("12: -1 if it is no record: there is no such type", Promise12MembersTest::noNumber);
        sentences.test("12: -1 if it is no record: another type", Promise12MembersTest::anotherType);
        sentences.test("12: .. asking changes nothing", Promise12MembersTest::asking);
        sentences.end();
    }

    private static void count(Check check) {
        for (int kind = 0; kind < 2; kind++) {
            Desk desk = new Desk();
            int r = desk.record(kind);
            int s = desk.record(kind);
            desk.field(r, 1);
            check.due("one", desk.members(r), 1);
            desk.bits(r, 5, 1, true);
            check.due("two", desk.members(r), 2);
            desk.bits(r, 5, 1, false);
            check.due("two and one unnamed", desk.members(r), 2);
            desk.separate(r);
            check.due("two and a break", desk.members(r), 2);
            desk.field(r, 0);
            desk.field(r, s);
            desk.bits(r, 5, 0, true);
            check.due("two and refused ones", desk.members(r), 2);
            check.due("none in the other", desk.members(s), 0);
            desk.finish(r);
            check.due("two, finished", desk.members(r), 2);
            desk.field(r, 1);
            check.due("two, and one refused", desk.members(r), 2);
        }
    }

    private static void bounds(Check check) {
        for (int kind = 0; kind < 2; kind++) {
            check.due("none", Stories.withMembers(kind, 0).tell().members(11), 0);
            check.due("99", Stories.withMembers(kind, 99).tell().members(11), 99);
            check.due("100", Stories.withMembers(kind, 100).tell().members(11), 100);
            check.due("100 of 101", Stories.withMembers(kind, 101).tell().members(11), 100);
            Desk bits = Stories.withMembers(kind, 99).then(d -> d.bits(11, 5, 1, true))
                    .then(d -> d.bits(11, 5, 1, true)).then(d -> d.bits(11, 5, 1, false)).tell();
            check.due("100 with bit-fields", bits.members(11), 100);
        }
    }

    private static void noNumber(Check check) {
        Desk desk = new Desk();
        check.due("members(11)", desk.members(11), -1);
        desk.record(0);
        check.due("members(11), made", desk.members(11), 0);
        check.due("members(12)", desk.members(12), -1);
        Desk full = new Story().fillTo(299).then(d -> d.record(1)).tell();
        check.due("members(299) of 300", full.members(299), 0);
        check.due("members(300) of 300", full.members(300), -1);
        for (int r : Stories.NO_TYPES) {
            Unchanged.due(check, Stories.busy(), "members(" + r + ")", d -> d.members(r), -1);
        }
        Unchanged.due(check, Stories.busy(), "members(17) of 17", d -> d.members(17), -1);
    }

    private static void anotherType(Check check) {
        int[] others = {0, 1, 2, 3, 4, 5, 6, 7, 8, 9, 10, Stories.POINTER, Stories.ARRAY};
        for (int r : others) {
            Unchanged.due(check, Stories.busy(), "members(" + r + ")", d -> d.members(r), -1);
        }
        Desk desk = Stories.busy().tell();
        check.due("an array of records", desk.members(desk.array(Stories.FINISHED, 2)), -1);
    }

    private static void asking(Check check) {
        Unchanged.due(check, Stories.busy(), "members of an open one", d -> d.members(Stories.STRUCT), 2);
        Unchanged.due(check, Stories.busy(), "members of an empty one", d -> d.members(Stories.EMPTY), 0);
        Unchanged.due(check, Stories.busy(), "members of a finished one", d -> d.members(Stories.FINISHED), 2);
    }
}
