public final class Promise08FinishTest {
    public static void main(String[] args) {
        Sentences sentences = new Sentences();
        sentences.test("8: Finishes record r: its size.", Promise08FinishTest::size);
        sentences.test("8: .. and it takes nothing more", Promise08FinishTest::takesNothing);
        sentences.test("8: -1 r is no open record: there is no such type", Promise08FinishTest::noRecordNumber);
        sentences.test("8: -1 r is no open record: another type", Promise08FinishTest::anotherType);
        sentences.test("8: -1 r is no open record: it is finished", Promise08FinishTest::finished);
        sentences.test("8: -2 it has no members", Promise08FinishTest::noMembers);
        sentences.test("8: -2 it has none but those without a name", Promise08FinishTest::unnamedAlone);
        sentences.test("8: -3 its size would be above 524288: 524288 is taken", Promise08FinishTest::greatest);
        sentences.end();
    }

    private static void size(Check check) {
        Desk desk = Stories.busy().tell();
        check.due("finish of the struct", desk.finish(Stories.STRUCT), 8);
        check.due("its size", desk.size(Stories.STRUCT), 8);
        check.due("its align", desk.align(Stories.STRUCT), 4);
        check.due("its members", desk.members(Stories.STRUCT), 2);
        check.due("its second place", desk.member(Stories.STRUCT, 1, 0), 4);
        check.due("finish of the union", desk.finish(Stories.UNION), 12);
        check.due("its size", desk.size(Stories.UNION), 12);
        check.due("the empty one is open still", desk.field(Stories.EMPTY, 1), 0);
        check.due("finish of it, with one member", desk.finish(Stories.EMPTY), 1);
        check.due("types()", desk.types(), Stories.BUSY_TYPES);
    }

    private static void takesNothing(Check check) {
        Story finished = Stories.busy().then(d -> d.finish(Stories.STRUCT));
        int r = Stories.STRUCT;
        Unchanged.due(check, finished, "field", d -> d.field(r, 1), -1);
        Unchanged.due(check, finished, "bits", d -> d.bits(r, 5, 1, true), -1);
        Unchanged.due(check, finished, "bits, unnamed", d -> d.bits(r, 5, 1, false), -1);
        Unchanged.due(check, finished, "separate", d -> d.separate(r) ? 1 : 0, 0);
        Unchanged.due(check, finished, "finish", d -> d.finish(r), -1);
        check.due("a field of it", finished.tell().field(Stories.EMPTY, r), 0);
        check.due("an array of it", finished.tell().array(r, 2), 17);
    }

    private static void noRecordNumber(Check check) {
        Desk desk = Stories.withMembers(0, 1).tell();
        check.due("finish(10)", desk.finish(10), -1);
        check.due("finish(12), the next number", desk.finish(12), -1);
        check.due("finish(11), the last type", desk.finish(11), 2);
        Unchanged.due(check, Stories.busy(), "finish(17) of 17", d -> d.finish(17), -1);
        for (int r : Stories.NO_TYPES) {
            Unchanged.due(check, Stories.busy(), "finish(" + r + ")", d -> d.finish(r), -1);
        }
    }

    private static void anotherType(Check check) {
        int[] others = {0, 1, 5, 6, 10, Stories.POINTER, Stories.ARRAY};
        for (int r : others) {
            Unchanged.due(check, Stories.busy(), "finish(" + r + ")", d -> d.finish(r), -1);
        }
    }

    private static void finished(Check check) {
        Unchanged.due(check, Stories.busy(), "finish again", d -> d.finish(Stories.FINISHED), -1);
        Story union = Stories.busy().then(d -> d.finish(Stories.UNION));
        Unchanged.due(check, union, "finish of a union again", d -> d.finish(Stories.UNION), -1);
    }

    private static void noMembers(Check check) {
        for (int kind = 0; kind < 2; kind++) {
            Story empty = Stories.withMembers(kind, 0);
            Unchanged.due(check, empty, "finish of an empty one", d -> d.finish(11), -2);
            Unchanged.due(check, empty.thenSeparate(11), "finish behind a break", d -> d.finish(11), -2);
            Story refused = empty.then(d -> d.field(11, 0)).then(d -> d.bits(11, 5, 33, true));
            Unchanged.due(check, refused, "finish behind refused members", d -> d.finish(11), -2);
            check.due("finish with one member", empty.then(d -> d.field(11, 1)).tell().finish(11), 1);
        }
    }

    private static void unnamedAlone(Check check) {
        for (int kind = 0; kind < 2; kind++) {
            Story unnamed = Stories.withMembers(kind, 0).then(d -> d.bits(11, 5, 8, false));
            Unchanged.due(check, unnamed, "finish with one unnamed", d -> d.finish(11), -2);
            Unchanged.due(check, unnamed.times(120, d -> d.bits(11, 6, 31, false)), "finish with 121 unnamed",
                    d -> d.finish(11), -2);
            Desk desk = unnamed.tell();
            check.due("finish", desk.finish(11), -2);
            check.due("its size, still open", desk.size(11), 0);
            check.due("its align", desk.align(11), 4);
            check.due("it takes a member", desk.bits(11, 5, 8, true), 0);
            check.due("its lowest bit", desk.member(11, 0, 2), kind == 0 ? 8 : 0);
            check.due("finish with a named one", desk.finish(11), 4);
        }
    }

    /** No record comes to -3: it reaches to 524288 at most, and every alignment divides that. */
    private static void greatest(Check check) {
        for (int place = 524284; place <= 524288; place++) {
            int end = place;
            for (int kind = 0; kind < 2; kind++) {
                Desk alone = new Story().recordReachingTo(kind, place).tell();
                check.due("bytes to " + place, alone.finish(12), place);
                check.due("their size", alone.size(12), place);
            }
            Desk pairs = new Story().recordReachingTo(1, place).then(d -> d.field(12, 3)).tell();
            check.due("a union of 2s to " + place, pairs.finish(12), place + place % 2);
            Desk union = new Story().recordReachingTo(1, place).then(d -> d.field(12, 5)).tell();
            check.due("a union of 4s to " + place, union.finish(12), place == 524284 ? 524284 : 524288);
            Desk struct = new Story().then(d -> d.record(0)).then(d -> d.field(11, 5))
                    .then(d -> d.array(1, end - 4)).then(d -> d.field(11, 12)).tell();
            check.due("a struct of 4s to " + place, struct.finish(11), place == 524284 ? 524284 : 524288);
            check.due("its size", struct.size(11), place == 524284 ? 524284 : 524288);
        }
    }
}
