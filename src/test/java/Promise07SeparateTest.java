public final class Promise07SeparateTest {
    public static void main(String[] args) {
        Sentences sentences = new Sentences();
        sentences.test("7: A BREAK in record r: true", Promise07SeparateTest::breaks);
        sentences.test("7: .. in that record alone", Promise07SeparateTest::otherRecords);
        sentences.test("7: .. in a full record too", Promise07SeparateTest::fullRecord);
        sentences.test("7: false if r is no open record: there is no such type", Promise07SeparateTest::noRecordNumber);
        sentences.test("7: false if r is no open record: another type", Promise07SeparateTest::anotherType);
        sentences.test("7: false if r is no open record: it is finished", Promise07SeparateTest::finished);
        sentences.end();
    }

    private static void refused(Check check, Story story, int r) {
        Unchanged.due(check, story, "separate(" + r + ")", d -> d.separate(r) ? 1 : 0, 0);
    }

    private static void breaks(Check check) {
        for (int kind = 0; kind < 2; kind++) {
            Desk desk = new Desk();
            int r = desk.record(kind);
            check.due("at the beginning", desk.separate(r), true);
            desk.bits(r, 5, 1, true);
            check.due("behind a bit-field", desk.separate(r), true);
            check.due("behind a break", desk.separate(r), true);
            desk.bits(r, 5, 1, true);
            check.due("place behind a break", desk.member(r, 1, 0), kind == 0 ? 4 : 0);
            check.due("lowest bit behind a break", desk.member(r, 1, 2), 0);
            desk.bits(r, 5, 1, true);
            check.due("lowest bit without a break", desk.member(r, 2, 2), kind == 0 ? 1 : 0);
            desk.field(r, 1);
            check.due("behind a byte", desk.separate(r), true);
            desk.field(r, 1);
            check.due("bytes stand as without a break", desk.member(r, 4, 0), kind == 0 ? 9 : 0);
            check.due("at the end", desk.separate(r), true);
            check.due("members", desk.members(r), 5);
            check.due("finish", desk.finish(r), kind == 0 ? 12 : 4);
        }
    }

    private static void otherRecords(Check check) {
        Desk desk = new Desk();
        int r = desk.record(0);
        int s = desk.record(0);
        desk.bits(r, 5, 1, true);
        desk.bits(s, 5, 1, true);
        check.due("separate(s)", desk.separate(s), true);
        desk.bits(r, 5, 1, true);
        desk.bits(s, 5, 1, true);
        check.due("place without a break", desk.member(r, 1, 0), 0);
        check.due("lowest bit without a break", desk.member(r, 1, 2), 1);
        check.due("place behind a break", desk.member(s, 1, 0), 4);
    }

    private static void fullRecord(Check check) {
        for (int kind = 0; kind < 2; kind++) {
            Desk hundred = Stories.withMembers(kind, 100).tell();
            check.due("with 100 members", hundred.separate(11), true);
            check.due("finish", hundred.finish(11), kind == 0 ? 200 : 2);
            Desk limit = new Story().recordReachingTo(kind, 524288).tell();
            check.due("at the limit", limit.separate(12), true);
            check.due("finish", limit.finish(12), 524288);
        }
        Desk full = Stories.full().tell();
        check.due("of a full desk", full.separate(Stories.STRUCT), true);
        check.due("2 bits", full.bits(Stories.STRUCT, 5, 2, true), 2);
        check.due("their place", full.member(Stories.STRUCT, 2, 0), 8);
    }

    private static void noRecordNumber(Check check) {
        Desk desk = new Desk();
        check.due("record(1)", desk.record(1), 11);
        check.due("separate(10)", desk.separate(10), false);
        check.due("separate(11), the last type", desk.separate(11), true);
        check.due("separate(12), the next number", desk.separate(12), false);
        refused(check, Stories.busy(), 17);
        for (int r : Stories.NO_TYPES) {
            refused(check, Stories.busy(), r);
        }
    }

    private static void anotherType(Check check) {
        int[] others = {0, 1, 5, 6, 10, Stories.POINTER, Stories.ARRAY};
        for (int r : others) {
            refused(check, Stories.busy(), r);
        }
    }

    private static void finished(Check check) {
        refused(check, Stories.busy(), Stories.FINISHED);
        refused(check, Stories.busy().then(d -> d.finish(Stories.STRUCT)), Stories.STRUCT);
        refused(check, Stories.busy().then(d -> d.finish(Stories.UNION)), Stories.UNION);
        Desk desk = Stories.busy().tell();
        check.due("finish of an empty one", desk.finish(Stories.EMPTY), -2);
        check.due("separate of it", desk.separate(Stories.EMPTY), true);
    }
}
